/-! the two constructors -/
abbrev WXn (k : Nat → ClassId) (x0 x1 x2 : Nat) (g : Nat → Option Nat) (sa va ma : Nat → Nat) (n : Nat) : va_W :=
  (x0, .inr (1, [.ref x1, .ref x2, .int 0])) :: (x1, .inl (k 0, 256, .inr (.inl (fun _ => 0)))) :: (x2, .inl (k 1, 31, .inr (.inr (.inr (.inr g))))) ::
  (rg n (fun i => (sa i, .inr (0, [.ref (va i), .ref (ma i), .int 0]))) ++ (rg n (fun i => (va i, .inl (k 0, 256, .inr (.inl (fun _ => 0))))) ++ rg n (fun i => (ma i, .inl (k 0, 4, .inr (.inl (fun _ => 0)))))))
theorem wxn_perm {α : Type} (A B C : List α) (s v m : α) : ((A ++ (B ++ C)) ++ [s, v, m]).Perm ((A ++ [s]) ++ ((B ++ [v]) ++ (C ++ [m]))) := by
  have h1 : (C ++ [s, v, m]).Perm (s :: (C ++ [v, m])) := List.perm_middle
  have h2 : (B ++ (s :: (C ++ [v, m]))).Perm (s :: (B ++ (C ++ [v, m]))) := List.perm_middle
  have h3 : (C ++ [v, m]).Perm (v :: (C ++ [m])) := List.perm_middle
  have h4 : (B ++ (C ++ [s, v, m])).Perm (s :: (B ++ (v :: (C ++ [m])))) := ((h1.append_left B).trans h2).trans ((h3.append_left B).cons s)
  have h5 := h4.append_left A
  simpa [List.append_assoc] using h5
theorem wxn_next (k : Nat → ClassId) (x0 x1 x2 : Nat) (g : Nat → Option Nat) (sa va ma : Nat → Nat) (n q u1 u2 : Nat) :
    (WXn k x0 x1 x2 g sa va ma n ++ ([(q, .inr (0, [.ref u1, .ref u2, .int 0])), (u1, .inl (k 0, 256, .inr (.inl (fun _ => 0)))), (u2, .inl (k 0, 4, .inr (.inl (fun _ => 0))))] : va_W)).Perm (WXn k x0 x1 x2 g (va_up sa n q) (va_up va n u1) (va_up ma n u2) (n + 1)) := by
  have hne : ∀ j, j < n → j ≠ n := fun j h => by omega
  have e1 : rg (n + 1) (fun i => (va_up sa n q i, (.inr (0, [.ref (va_up va n u1 i), .ref (va_up ma n u2 i), .int 0]) : va_E))) = rg n (fun i => (sa i, .inr (0, [.ref (va i), .ref (ma i), .int 0]))) ++ [(q, .inr (0, [.ref u1, .ref u2, .int 0]))] := by
    rw [rg_succ, rg_congr (g := fun i => (sa i, .inr (0, [.ref (va i), .ref (ma i), .int 0]))) (fun j hj => by simp only [va_up_ne _ _ (hne j hj)])]
    simp only [va_up_self]
  have e2 : rg (n + 1) (fun i => (va_up va n u1 i, (.inl (k 0, 256, .inr (.inl (fun _ => 0))) : va_E))) = rg n (fun i => (va i, .inl (k 0, 256, .inr (.inl (fun _ => 0))))) ++ [(u1, .inl (k 0, 256, .inr (.inl (fun _ => 0))))] := by
    rw [rg_succ, rg_congr (g := fun i => (va i, .inl (k 0, 256, .inr (.inl (fun _ => 0))))) (fun j hj => by simp only [va_up_ne _ _ (hne j hj)])]
    simp only [va_up_self]
  have e3 : rg (n + 1) (fun i => (va_up ma n u2 i, (.inl (k 0, 4, .inr (.inl (fun _ => 0))) : va_E))) = rg n (fun i => (ma i, .inl (k 0, 4, .inr (.inl (fun _ => 0))))) ++ [(u2, .inl (k 0, 4, .inr (.inl (fun _ => 0))))] := by
    rw [rg_succ, rg_congr (g := fun i => (ma i, .inl (k 0, 4, .inr (.inl (fun _ => 0))))) (fun j hj => by simp only [va_up_ne _ _ (hne j hj)])]
    simp only [va_up_self]
  show (_ :: _ :: _ :: ((_ ++ (_ ++ _)) ++ _)).Perm (_ :: _ :: _ :: (rg (n + 1) _ ++ (rg (n + 1) _ ++ rg (n + 1) _)))
  rw [e1, e2, e3]
  exact (((wxn_perm _ _ _ _ _ _).cons _).cons _).cons _
/-- the addresses as one function -/
def axf (x0 x1 x2 : Nat) (sa va ma : Nat → Nat) : Nat → Nat := fun x => if x = 0 then x0 else if x = 1 then x1 else if x = 2 then x2 else if x < 34 then sa (x - 3) else if x < 65 then va (x - 34) else ma (x - 65)
theorem axf_s (x0 x1 x2 : Nat) (sa va ma : Nat → Nat) {i : Nat} (h : i < 31) : axf x0 x1 x2 sa va ma (3 + i) = sa i := by
  unfold axf
  rw [if_neg (by omega), if_neg (by omega), if_neg (by omega), if_pos (by omega), Nat.add_sub_cancel_left]
theorem axf_v (x0 x1 x2 : Nat) (sa va ma : Nat → Nat) {i : Nat} (h : i < 31) : axf x0 x1 x2 sa va ma (34 + i) = va i := by
  unfold axf
  rw [if_neg (by omega), if_neg (by omega), if_neg (by omega), if_neg (by omega), if_pos (by omega), Nat.add_sub_cancel_left]
theorem axf_m (x0 x1 x2 : Nat) (sa va ma : Nat → Nat) {i : Nat} : axf x0 x1 x2 sa va ma (65 + i) = ma i := by
  unfold axf
  rw [if_neg (by omega), if_neg (by omega), if_neg (by omega), if_neg (by omega), if_neg (by omega), Nat.add_sub_cancel_left]
theorem wxn_eq (k : Nat → ClassId) (x0 x1 x2 : Nat) (sa va ma : Nat → Nat) :
    WX k (axf x0 x1 x2 sa va ma) (nI 0) (fun _ => 0) (fun _ _ => 0) (fun _ _ => 0) (fun _ => 0) = WXn k x0 x1 x2 (fun i => some (axf x0 x1 x2 sa va ma (3 + i))) sa va ma 31 := by
  show _ :: _ :: _ :: (rg 31 _ ++ (rg 31 _ ++ rg 31 _)) = _ :: _ :: _ :: (rg 31 _ ++ (rg 31 _ ++ rg 31 _))
  rw [rg_congr (f := fun i => (axf x0 x1 x2 sa va ma (3 + i), (.inr (0, [.ref (axf x0 x1 x2 sa va ma (34 + i)), .ref (axf x0 x1 x2 sa va ma (65 + i)), .int ((fun _ => 0) i)]) : va_E))) (g := fun i => (sa i, .inr (0, [.ref (va i), .ref (ma i), .int 0]))) (fun j hj => by simp only [axf_s _ _ _ _ _ _ hj, axf_v _ _ _ _ _ _ hj, axf_m]),
    rg_congr (f := fun i => (axf x0 x1 x2 sa va ma (34 + i), (.inl (k 0, 256, .inr (.inl ((fun _ _ => 0) i))) : va_E))) (g := fun i => (va i, .inl (k 0, 256, .inr (.inl (fun _ => 0))))) (fun j hj => by simp only [axf_v _ _ _ _ _ _ hj]),
    rg_congr (f := fun i => (axf x0 x1 x2 sa va ma (65 + i), (.inl (k 0, 4, .inr (.inl ((fun _ _ => 0) i))) : va_E))) (g := fun i => (ma i, .inl (k 0, 4, .inr (.inl (fun _ => 0))))) (fun j hj => by simp only [axf_m])]
  rfl
theorem wxn_P {D : va_G} {k : Nat → ClassId} {x0 x1 x2 : Nat} {g : Nat → Option Nat} {sa va ma : Nat → Nat} {H : Heap} (hg : ∀ i, i < 31 → g i = some (sa i)) (h : va_P D wCl (WXn k x0 x1 x2 g sa va ma 31) H) : va_P D wCl (WX k (axf x0 x1 x2 sa va ma) (nI 0) (fun _ => 0) (fun _ _ => 0) (fun _ _ => 0) (fun _ => 0)) H := by
  rw [wxn_eq]
  intro i q hq
  match i, hq with
  | 0, hq => exact h 0 q hq
  | 1, hq => exact h 1 q hq
  | 2, hq =>
    cases hq
    have h2 : H[x2]? = some (vp_cell (k 1) (31, .inr (.inr (.inr (.inr g))))) := h 2 _ rfl
    show H[x2]? = some (vp_cell (k 1) _)
    rw [h2, vp_cell_q, vp_cell_q]
    exact congrArg some (arrV_congr _ (fun j hj => by rw [hg j hj, axf_s _ _ _ _ _ _ hj]))
  | i + 3, hq => exact h (i + 3) q hq
theorem wxn_D {A : Nat → Prop} {k : Nat → ClassId} {x0 x1 x2 : Nat} {g : Nat → Option Nat} {sa va ma : Nat → Nat} (h : va_D A (WXn k x0 x1 x2 g sa va ma 31)) : va_D A (WX k (axf x0 x1 x2 sa va ma) (nI 0) (fun _ => 0) (fun _ _ => 0) (fun _ _ => 0) (fun _ => 0)) := by
  rw [wxn_eq]
  exact h.ad rfl

set_option maxHeartbeats 4000000 in
set_option maxRecDepth 100000 in
theorem m_X_init (l : Launch) (D : va_G) (k : Nat → ClassId) (x0 : Nat) (sz : Nat) : Met l y_X_init (w_X_init :: TB) ({ frames := 3, cells := 95, slots := 8440, locals := 80 }) (va_Pc [.ref x0] (fun U => PW D k [(x0, .inr (1, [.null, .null, .int 0]))] sz U ∧ va_AO RS U)) (va_Qv (fun a : Nat → Nat => a 0 = x0) (fun a t => va_P D wCl (WX k a (nI 0) (fun _ => 0) (fun _ _ => 0) (fun _ _ => 0) (fun _ => 0)) t.heap ∧ va_D (va_A [(x0, .inr (1, [.null, .null, .int 0]))] sz) (WX k a (nI 0) (fun _ => 0) (fun _ _ => 0) (fun _ _ => 0) (fun _ => 0))) (va_A [(x0, .inr (1, [.null, .null, .int 0]))] sz)) 95 8440 (va_A [(x0, .inr (1, [.null, .null, .int 0]))] sz) := by
  refine Met.ofW (cc := b_X_init) (maxL := 2) (ret := none) (by decide) rfl ?_
  intro p e s m args below meth c s₁ B hml hv
  obtain ⟨rfl, ⟨hsz, hP, hK, hD0, hE⟩, hao⟩ := hv
  have hx := B.exec
  have hb := B.bytes
  have hr := B.returns
  have hts0 := atoms_spec (ws := w_X_init :: TB) B.pre
  have hts := fun w (hw : w ∈ TB) => hts0 w (List.mem_cons_of_mem _ hw)
  have hown : s.vm.findClass RX = some m.cls := findClass_of_methodNamed B.named
  have hlocks := B.notSynchronized
  have hin : meth.name = "<init>" := (name_of_methodNamed B.named B.method).1
  subst hsz
  have hD := hD0.self (sz := s.heap.size)
  generalize hAe : va_A ([(x0, .inr (1, [.null, .null, .int 0]))]) s.heap.size = A at *
  have hA : ∀ q : Nat, s.heap.size ≤ q → A q := fun q h => by rw [← hAe]; exact Or.inr h
  have hS : va_S A s.heap s.heap [] := va_S.rf
  have hl := lv_entry ([.ref x0]) (n := 2) (Nat.le_of_ble_eq_true rfl)
  rw [lg_entry_eq]
  generalize (lg_sl ([.ref x0]) ++ List.replicate (2 - (lg_sl ([.ref x0])).length) Slot.unset).toArray = ls at hl ⊢
  have hl : lv_has ls 2 [(0, .ref x0)] := hl
  refine lv_aload_n hx hb d_X_init_0 rfl (lv_at hl 0 rfl) ?_
  refine W.objInit hx hb hown (hts _ kl_X_3) (hts _ ki_objectInit) (hts _ kc_obj) rfl (by rw [hml]; exact hl.1) rfl d_X_init_1 (Nat.le_of_ble_eq_true rfl) (Nat.le_of_ble_eq_true rfl) ?_
  refine W.eq (g2 := F0 m 4 ls []) rfl ?_
  refine lv_aload_n hx hb d_X_init_4 rfl (lv_at hl 0 rfl) ?_
  refine lv_sipush (v := 256) hx hb d_X_init_5 (by decide) ?_
  refine va_newa (atype := .long) hx hb (hts _ kr_long) (ty := .long) rfl hK hP hD hS hA (N' := 256) (a0 := (256, .inr (.inl (fun _ => 0)))) (fun _ => rfl) (by decide) (by decide) (by decide) (Nat.le_of_ble_eq_true rfl) (Nat.le_of_ble_eq_true rfl) d_X_init_8 (fun x1 cA H hK1 hP hD hS => ?_)
  obtain rfl : cA = k 0 := ra_eq (hK1.2 6 _ rfl).2 (hK1.2 0 _ rfl).2
  refine va_putF (D := D) (ci := 1) (v := .ref x1) (ty := .array .long) (C := RX) (T := TX) (N := 3) hx hb hts kin_X tX tyX nmX hown hK hP hD hS 0 rfl rfl 0 (by decide) (hts _ kf_X_9) (fun _ h9 => h9) rfl hin rfl (by decide +kernel) rfl rfl (Nat.le_of_ble_eq_true rfl) d_X_init_10 (fun H locs hP hD hS => ?_)
  have hP : va_P D wCl ([(x0, .inr (1, [.ref x1, .null, .int 0])), (x1, .inl (k 0, 256, .inr (.inl (fun _ => 0))))]) H := hP
  have hD : va_D A ([(x0, .inr (1, [.ref x1, .null, .int 0])), (x1, .inl (k 0, 256, .inr (.inl (fun _ => 0))))]) := hD
  refine lv_aload_n hx hb d_X_init_13 rfl (lv_at hl 0 rfl) ?_
  refine lv_bipush (v := 31) hx hb d_X_init_14 (by decide) ?_
  refine va_newq hx hb hown (hts _ kk_X_13) hao hK hP hD hS hA (N' := 31) (by decide) (by decide) (by decide) (Nat.le_of_ble_eq_true rfl) (Nat.le_of_ble_eq_true rfl) d_X_init_16 (fun x2 cA H hK1 hP hD hS => ?_)
  obtain rfl : cA = k 1 := ra_eq (hK1.2 6 _ rfl).2 (hK1.2 1 _ rfl).2
  refine va_putF (D := D) (ci := 1) (v := .ref x2) (ty := .array (.object "StorageCosts$State")) (C := RX) (T := TX) (N := 3) hx hb hts kin_X tX tyX nmX hown hK hP hD hS 0 rfl rfl 1 (by decide) (hts _ kf_X_15) (fun _ h9 => h9) rfl hin rfl (by decide +kernel) rfl rfl (Nat.le_of_ble_eq_true rfl) d_X_init_19 (fun H locs hP hD hS => ?_)
  have hP : va_P D wCl ([(x0, .inr (1, [.ref x1, .ref x2, .int 0])), (x1, .inl (k 0, 256, .inr (.inl (fun _ => 0)))), (x2, .inl (k 1, 31, .inr (.inr (.inr (.inr (fun _ => none))))))]) H := hP
  have hD : va_D A ([(x0, .inr (1, [.ref x1, .ref x2, .int 0])), (x1, .inl (k 0, 256, .inr (.inl (fun _ => 0)))), (x2, .inl (k 1, 31, .inr (.inr (.inr (.inr (fun _ => none))))))]) := hD
  refine lv_aload_n hx hb d_X_init_22 rfl (lv_at hl 0 rfl) ?_
  refine lv_iconst (v := 0) hx hb d_X_init_23 (by decide) ?_
  refine va_put (D := D) (ci := 1) (v := .int 0) (ty := .int) (C := RX) (T := TX) (N := 3) hx hb hts kin_X tX tyX nmX hown hK hP hD hS 0 rfl rfl 2 (by decide) (hts _ kf_X_19) (fun _ h9 => h9) rfl (by decide +kernel) rfl rfl (Nat.le_of_ble_eq_true rfl) d_X_init_24 (fun H locs hP hD hS => ?_)
  have hP : va_P D wCl ([(x0, .inr (1, [.ref x1, .ref x2, .int 0])), (x1, .inl (k 0, 256, .inr (.inl (fun _ => 0)))), (x2, .inl (k 1, 31, .inr (.inr (.inr (.inr (fun _ => none))))))]) H := hP
  have hD : va_D A ([(x0, .inr (1, [.ref x1, .ref x2, .int 0])), (x1, .inl (k 0, 256, .inr (.inl (fun _ => 0)))), (x2, .inl (k 1, 31, .inr (.inr (.inr (.inr (fun _ => none))))))]) := hD
  refine lv_iconst (v := 0) hx hb d_X_init_27 (by decide) ?_
  refine lv_istore_n (lv' := [(1, .int 0), (0, .ref x0)]) hx hb d_X_init_28 rfl hl (by decide) rfl (fun ls hl => ?_)
  generalize H = H9 at hP hS ⊢
  generalize locs = locs9 at hS ⊢
  refine W.widen (k := 2 + 3 * 0) (n := 287 + 263 * 0) (by omega) (by omega) ?_
  generalize hRR : (headSpec (w_X_init :: TB) { frames := 3, cells := 95, slots := 8440, locals := 80 }).room = RR
  generalize hQQ : MQ below (va_Qv (fun a : Nat → Nat => a 0 = x0) (fun a t => va_P D wCl (WX k a (nI 0) (fun _ => 0) (fun _ _ => 0) (fun _ _ => 0) (fun _ => 0)) t.heap ∧ va_D A (WX k a (nI 0) (fun _ => 0) (fun _ _ => 0) (fun _ _ => 0) (fun _ => 0))) A) [.ref x0].toArray s 95 8440 A = QQ
  have hRc : RR.cells = 95 := by rw [← hRR]; rfl
  have hRs : RR.slots = 8440 := by rw [← hRR]; rfl
  have loop : ∀ (n j : Nat), j ≤ 31 → 32 ≤ j + n → ∀ (g : Nat → Option Nat) (sa va ma : Nat → Nat), (∀ i, i < j → g i = some (sa i)) → ∀ (H : Heap) (locs : List Loc), va_P D wCl (WXn k x0 x1 x2 g sa va ma j) H → va_D A (WXn k x0 x1 x2 g sa va ma j) → va_S A s.heap H locs → ∀ (ls : Array Slot), lv_has ls 2 [(1, .int (nI j)), (0, .ref x0)] → W p l e RR s m [.ref x0].toArray below meth c H locs (2 + 3 * j) (287 + 263 * j) QQ (F0 m 29 ls []) := by
    intro n
    induction n with
    | zero =>
      intro j h1 h2
      exact absurd h2 (by omega)
    | succ n ih =>
      intro j hj hjn g sa va ma hg H locs hP hD hS ls hl
      refine lv_iload_n hx hb d_X_init_29 rfl (lv_at hl 0 rfl) ?_
      refine lv_aload_n hx hb d_X_init_30 rfl (lv_at hl 1 rfl) ?_
      refine va_get (D := D) (ci := 1) (v := .ref x2) (C := RX) (T := TX) (N := 3) hx hb hts kin_X hown hK hP 0 rfl rfl 1 (by decide) (hts _ kf_X_15) (fun _ h9 => h9) rfl d_X_init_31 ?_
      refine va_alen hx hb hK hP 2 1 rfl rfl (v := 31) rfl d_X_init_34 ?_
      refine lv_icmp_ge (tgt := 57) hx hb d_X_init_35 (by decide) (fun c_35 => ?_) (fun c_35 => ?_)
      · have hj : j = 31 := by
          rcases Nat.lt_or_ge j 31 with q | q
          · exact absurd c_35 (nI_ge q (by decide))
          · omega
        subst hj hQQ
        refine W.widen (k := 95) (n := 8440) (by omega) (by omega) ?_
        exact W.vret hx hb hr (fun t ht hW => ⟨⟨axf x0 x1 x2 sa va ma, rfl, rfl, atP (wxn_P hg hP) ht, wxn_D hD⟩, hS.F ht⟩) hS.2.2 d_X_init_57
      · have hlt : j < 31 := by
          rcases Nat.lt_or_ge j 31 with q | q
          · exact q
          · exact absurd (nI_le q (by omega)) c_35
        refine lv_aload_n hx hb d_X_init_38 rfl (lv_at hl 1 rfl) ?_
        refine va_get (D := D) (ci := 1) (v := .ref x2) (C := RX) (T := TX) (N := 3) hx hb hts kin_X hown hK hP 0 rfl rfl 1 (by decide) (hts _ kf_X_15) (fun _ h9 => h9) rfl d_X_init_39 ?_
        refine lv_iload_n hx hb d_X_init_42 rfl (lv_at hl 0 rfl) ?_
        refine va_new (ci := 0) (fs := [.null, .null, .int 0]) (C := RS) (T := TS) (N := 3) hx hb hts kin_S tS tyS hown (hts _ kk_X_13) (hts _ ka_S) (hts _ kz_S) hK hP hD hS hA rfl (fun i hi => by rcases (show i = 0 ∨ i = 1 ∨ i = 2 by omega) with rfl | rfl | rfl <;> rfl) (by omega) (by omega) d_X_init_43 (fun q H hP hD hS => ?_)
        refine lv_dup hx hb d_X_init_46 rfl ?_
        have hFc := cut_F (last_D hD) hS hA
        refine va_callv (va_runIN (As := []) (rest := [.ref q, .int (nI j), .ref x2]) (host := RX) ⟨hx, hb, hml, hown, hts⟩ (m_S_init l D k q 0 _) ⟨va_cnB 0 hts (TB_c kc_S_init) rfl rfl rfl (hE.1 _ nl_X_23) (hts _ kz_S) (by decide +kernel) (by rw [← hRR]; exact ⟨Nat.le_of_ble_eq_true rfl, Nat.le_of_ble_eq_true rfl⟩), rfl, hts _ ki_S_init⟩ ⟨PW.bl, fun U hU hW => ⟨rfl, PW.go hK (last_P hP) (last_D hD) hS hA hE hU hW⟩⟩ rfl rfl hl.1 rfl (lv_room (Nat.le_of_ble_eq_true rfl)) d_X_init_47 (by omega)) hS (fun q _ h => hFc q h) hFc (fun u t H1 locs1 ht hvm hw hB hz1 hk1 hS => ?_)
        obtain ⟨u1, u2⟩ := u
        obtain ⟨hB, hBD⟩ := hB
        dsimp only at hB hBD
        rw [ht] at hB
        obtain ⟨hP, hD⟩ := cut_G hP hD hk1 hFc hB hBD
        generalize H1 = H at hP hS ⊢
        generalize locs1 = locs at hS ⊢
        obtain ⟨qk, hqk⟩ : ∃ qk, (WXn k x0 x1 x2 g sa va ma j ++ ([(q, .inr (0, [.ref u1, .ref u2, .int 0])), (u1, .inl (k 0, 256, .inr (.inl (fun _ => 0)))), (u2, .inl (k 0, 4, .inr (.inl (fun _ => 0))))] : va_W))[qk]? = some ((q, .inr (0, [.ref u1, .ref u2, .int 0])) : Nat × va_E) := List.getElem?_of_mem (List.mem_append_right _ List.mem_cons_self)
        refine va_astq (r := (RS, TS, 3)) hx hb hK hP hD hS 2 1 qk 0 rfl rfl hqk rfl (vp_in_nI hlt (by decide)) d_X_init_50 (fun H locs hP hD hS => ?_)
        have hP : va_P D wCl (WXn k x0 x1 x2 (va_up g (nI j).toNatClampNeg (some q)) sa va ma j ++ [(q, .inr (0, [.ref u1, .ref u2, .int 0])), (u1, .inl (k 0, 256, .inr (.inl (fun _ => 0)))), (u2, .inl (k 0, 4, .inr (.inl (fun _ => 0))))]) H := hP
        have hD : va_D A (WXn k x0 x1 x2 (va_up g (nI j).toNatClampNeg (some q)) sa va ma j ++ [(q, .inr (0, [.ref u1, .ref u2, .int 0])), (u1, .inl (k 0, 256, .inr (.inl (fun _ => 0)))), (u2, .inl (k 0, 4, .inr (.inl (fun _ => 0))))]) := hD
        rw [nI_clamp (show j < 2 ^ 31 by omega)] at hP hD
        have hP := hP.perm (wxn_next k x0 x1 x2 _ sa va ma j q u1 u2)
        have hD := hD.perm (wxn_next k x0 x1 x2 _ sa va ma j q u1 u2)
        refine lv_iinc (v := (nI j) + 1) (lv' := [(1, .int ((nI j) + 1)), (0, .ref x0)]) hx hb d_X_init_51 hl (k := 0) rfl rfl (by decide) rfl (fun ls hl => ?_)
        refine lv_goto (tgt := 29) hx hb d_X_init_54 (by decide) ?_
        refine W.widen (k := 2 + 3 * (j + 1)) (n := 287 + 263 * (j + 1)) (by omega) (by omega) ?_
        refine ih (j + 1) hlt (by omega) _ _ _ _ (fun i hi => ?_) H locs hP hD hS ls ?_
        · by_cases h : i = j
          · rw [h, va_up_self, va_up_self]
          · rw [va_up_ne _ _ h, va_up_ne _ _ h]; exact hg i (by omega)
        · rw [← nI_1 j]; exact lv_sub hl [0, 1] rfl
  exact loop 32 0 (by omega) (by omega) (fun _ => none) (fun _ => 0) (fun _ => 0) (fun _ => 0) (fun i h => absurd h (Nat.not_lt_zero i)) H9 locs9 hP hD hS ls (lv_sub hl [0, 1] rfl)
def AOA (t : FieldType) (U : State) : Prop := (Cond.arrayOver (.array t)).before #[] U = true
theorem AOA.moved {t : FieldType} {u U : State} (hvm : u.vm.Alike U.vm) (h : AOA t u) : AOA t U := by
  obtain ⟨comp, c9, k9, h1, h2, h3, h4, h5⟩ := ao_spec h
  obtain ⟨k', hk', he⟩ := hvm.2.2 _ _ h3
  have hi : (U.vm.classes.findIdx? fun (x : Class) => match x.kind with | .array component _ => component == comp | _ => false) = some c9 := by
    rw [hvm.findIdx?_eqK _ (fun _ => rfl)]
    exact h2
  have hkind : k'.kind = .array comp (.array t) := by rw [he]; exact h4
  have f1 : U.vm.findClass (FieldType.array t).toString = some comp := by rw [hvm.findClass]; exact h1
  have f2 : U.vm.findClass ("[" ++ (FieldType.array t).toString) = some c9 := by rw [hvm.findClass]; exact h5
  unfold AOA Cond.before Cond.holds
  simp only [Cond.value]
  rw [f1, Option.bind_some]
  refine (congrArg (fun o : Option Nat => (o.bind (fun c => (U.vm.classes[c]?).map fun (k : Class) => match k.kind with | .array _ ty => decide (ty = FieldType.array t) && decide (U.vm.findClass ("[" ++ (FieldType.array t).toString) = some c) | _ => false) == some true)) hi).trans ?_
  simp [hk', hkind, f2]
theorem nmJJ : ("[" ++ (FieldType.array .long).toString) = "[[J" := by decide +kernel
theorem nmZZ : ("[" ++ (FieldType.array .boolean).toString) = "[[Z" := by decide +kernel
def bxf (y0 y1 y2 y3 y4 y5 y6 : Nat) : Nat → Nat := fun x => if x = 0 then y0 else if x = 1 then y1 else if x = 2 then y2 else if x = 3 then y3 else if x = 4 then y4 else if x = 5 then y5 else if x = 6 then y6 else if x < 38 then y1 + 1 + (x - 7) else y2 + 1 + (x - 38)
theorem bxf_k (y0 y1 y2 y3 y4 y5 y6 : Nat) {i : Nat} (h : i < 31) : bxf y0 y1 y2 y3 y4 y5 y6 (7 + i) = y1 + 1 + i := by
  unfold bxf
  rw [if_neg (by omega), if_neg (by omega), if_neg (by omega), if_neg (by omega), if_neg (by omega), if_neg (by omega), if_neg (by omega), if_pos (by omega), Nat.add_sub_cancel_left]
theorem bxf_t (y0 y1 y2 y3 y4 y5 y6 : Nat) {i : Nat} : bxf y0 y1 y2 y3 y4 y5 y6 (38 + i) = y2 + 1 + i := by
  unfold bxf
  rw [if_neg (by omega), if_neg (by omega), if_neg (by omega), if_neg (by omega), if_neg (by omega), if_neg (by omega), if_neg (by omega), if_neg (by omega), Nat.add_sub_cancel_left]
theorem wmn_perm {α : Type} (ob K T R N F U : α) (A B : List α) : ([ob] ++ (K :: A) ++ (T :: B) ++ [R] ++ [N] ++ [F] ++ [U]).Perm (ob :: K :: T :: R :: N :: F :: U :: (A ++ B)) := by
  have h1 : (A ++ (T :: B) ++ [R, N, F, U]).Perm ([T] ++ [R, N, F, U] ++ (A ++ B)) := by
    have h2 : (A ++ (T :: B)).Perm (T :: (A ++ B)) := List.perm_middle
    exact (h2.append_right _).trans (List.perm_append_comm.cons T)
  have h3 := (h1.cons K).cons ob
  simpa [List.append_assoc] using h3
abbrev refs (f : Nat → Option Nat) : (Nat → Int32) ⊕ (Nat → Int64) ⊕ (Nat → UInt32) ⊕ (Nat → UInt64) ⊕ (Nat → Option Nat) := .inr (.inr (.inr (.inr f)))
theorem wmn_eq {D : va_G} (k : Nat → ClassId) (y0 y1 y2 y3 y4 y5 y6 : Nat) {H : Heap} {A : Nat → Prop} (hP : va_P D wCl ((y0, .inr (2, [.int 0, .ref y1, .ref y2, .ref y3, .ref y4, .ref y5, .ref y6, .int 0, .int 0])) :: (y1, .inl (k 2, 31, refs (fun i => some (y1 + 1 + i)))) :: (y2, .inl (k 3, 31, refs (fun i => some (y2 + 1 + i)))) :: (y3, .inl (k 4, 31, .inl (fun _ => 0))) :: (y4, .inl (k 0, 256, .inr (.inl (fun _ => 0)))) :: (y5, .inl (k 0, 256, .inr (.inl (fun _ => 0)))) :: (y6, .inl (k 5, 256, .inl (fun _ => 0))) :: (rg 31 (fun i => (y1 + 1 + i, .inl (k 0, 256, .inr (.inl (fun _ => 0))))) ++ rg 31 (fun i => (y2 + 1 + i, .inl (k 5, 256, .inl (fun _ => 0)))))) H)
    (hD : va_D A ((y0, .inr (2, [.int 0, .ref y1, .ref y2, .ref y3, .ref y4, .ref y5, .ref y6, .int 0, .int 0])) :: (y1, .inl (k 2, 31, refs (fun i => some (y1 + 1 + i)))) :: (y2, .inl (k 3, 31, refs (fun i => some (y2 + 1 + i)))) :: (y3, .inl (k 4, 31, .inl (fun _ => 0))) :: (y4, .inl (k 0, 256, .inr (.inl (fun _ => 0)))) :: (y5, .inl (k 0, 256, .inr (.inl (fun _ => 0)))) :: (y6, .inl (k 5, 256, .inl (fun _ => 0))) :: (rg 31 (fun i => (y1 + 1 + i, .inl (k 0, 256, .inr (.inl (fun _ => 0))))) ++ rg 31 (fun i => (y2 + 1 + i, .inl (k 5, 256, .inl (fun _ => 0))))))) :
    va_P D wCl (WM k (bxf y0 y1 y2 y3 y4 y5 y6) 0 0 (nI 0) (fun _ => 0) (fun _ => 0) (zb (fun _ => false)) (fun _ => 0) (fun _ _ => 0) (fun _ => zb (fun _ => false))) H ∧ va_D A (WM k (bxf y0 y1 y2 y3 y4 y5 y6) 0 0 (nI 0) (fun _ => 0) (fun _ => 0) (zb (fun _ => false)) (fun _ => 0) (fun _ _ => 0) (fun _ => zb (fun _ => false))) := by
  have e1 : rg 31 (fun i => (bxf y0 y1 y2 y3 y4 y5 y6 (7 + i), (.inl (k 0, 256, .inr (.inl (fun _ => 0))) : va_E))) = rg 31 (fun i => (y1 + 1 + i, .inl (k 0, 256, .inr (.inl (fun _ => 0))))) := rg_congr (fun j hj => by simp only [bxf_k _ _ _ _ _ _ _ hj])
  have e2 : rg 31 (fun i => (bxf y0 y1 y2 y3 y4 y5 y6 (38 + i), (.inl (k 5, 256, .inl (fun _ => 0)) : va_E))) = rg 31 (fun i => (y2 + 1 + i, .inl (k 5, 256, .inl (fun _ => 0)))) := rg_congr (fun j hj => by simp only [bxf_t])
  have ew : WM k (bxf y0 y1 y2 y3 y4 y5 y6) 0 0 (nI 0) (fun _ => 0) (fun _ => 0) (zb (fun _ => false)) (fun _ => 0) (fun _ _ => 0) (fun _ => zb (fun _ => false)) = (y0, .inr (2, [.int 0, .ref y1, .ref y2, .ref y3, .ref y4, .ref y5, .ref y6, .int 0, .int 0])) :: (y1, .inl (k 2, 31, refs (fun i => some (bxf y0 y1 y2 y3 y4 y5 y6 (7 + i))))) :: (y2, .inl (k 3, 31, refs (fun i => some (bxf y0 y1 y2 y3 y4 y5 y6 (38 + i))))) :: (y3, .inl (k 4, 31, .inl (fun _ => 0))) :: (y4, .inl (k 0, 256, .inr (.inl (fun _ => 0)))) :: (y5, .inl (k 0, 256, .inr (.inl (fun _ => 0)))) :: (y6, .inl (k 5, 256, .inl (fun _ => 0))) :: (rg 31 (fun i => (y1 + 1 + i, .inl (k 0, 256, .inr (.inl (fun _ => 0))))) ++ rg 31 (fun i => (y2 + 1 + i, .inl (k 5, 256, .inl (fun _ => 0))))) := by
    rw [← e1, ← e2]; rfl
  rw [ew]
  refine ⟨fun i q hq => ?_, hD.ad rfl⟩
  match i, hq with
  | 0, hq => exact hP 0 q hq
  | 1, hq =>
    cases hq
    have h2 : H[y1]? = some (vp_cell (k 2) (31, refs (fun i => some (y1 + 1 + i)))) := hP 1 _ rfl
    show H[y1]? = some (vp_cell (k 2) _)
    rw [h2, vp_cell_q, vp_cell_q]
    exact congrArg some (arrV_congr _ (fun j hj => by rw [bxf_k _ _ _ _ _ _ _ hj]))
  | 2, hq =>
    cases hq
    have h2 : H[y2]? = some (vp_cell (k 3) (31, refs (fun i => some (y2 + 1 + i)))) := hP 2 _ rfl
    show H[y2]? = some (vp_cell (k 3) _)
    rw [h2, vp_cell_q, vp_cell_q]
    exact congrArg some (arrV_congr _ (fun j hj => by rw [bxf_t]))
  | i + 3, hq => exact hP (i + 3) q hq

set_option maxHeartbeats 4000000 in
set_option maxRecDepth 100000 in
theorem m_M_init (l : Launch) (D : va_G) (k : Nat → ClassId) (y0 : Nat) (sz : Nat) : Met l y_M_init (w_M_init :: TB) ({ frames := 1, cells := 68, slots := 16733, locals := 20 }) (va_Pc [.ref y0] (fun U => PW D k [(y0, .inr (2, [.int 0, .null, .null, .null, .null, .null, .null, .int 0, .int 0]))] sz U ∧ AOA .long U ∧ AOA .boolean U)) (va_Qv (fun b : Nat → Nat => b 0 = y0) (fun b t => va_P D wCl (WM k b 0 0 (nI 0) (fun _ => 0) (fun _ => 0) (zb (fun _ => false)) (fun _ => 0) (fun _ _ => 0) (fun _ => zb (fun _ => false))) t.heap ∧ va_D (va_A [(y0, .inr (2, [.int 0, .null, .null, .null, .null, .null, .null, .int 0, .int 0]))] sz) (WM k b 0 0 (nI 0) (fun _ => 0) (fun _ => 0) (zb (fun _ => false)) (fun _ => 0) (fun _ _ => 0) (fun _ => zb (fun _ => false)))) (va_A [(y0, .inr (2, [.int 0, .null, .null, .null, .null, .null, .null, .int 0, .int 0]))] sz)) 68 16733 (va_A [(y0, .inr (2, [.int 0, .null, .null, .null, .null, .null, .null, .int 0, .int 0]))] sz) := by
  refine Met.ofW (cc := b_M_init) (maxL := 1) (ret := none) (by decide) rfl ?_
  intro p e s m args below meth c s₁ B hml hv
  obtain ⟨rfl, ⟨hsz, hP, hK, hD0, hE⟩, hao1, hao2⟩ := hv
  have hx := B.exec
  have hb := B.bytes
  have hr := B.returns
  have hts0 := atoms_spec (ws := w_M_init :: TB) B.pre
  have hts := fun w (hw : w ∈ TB) => hts0 w (List.mem_cons_of_mem _ hw)
  have hown : s.vm.findClass RM = some m.cls := findClass_of_methodNamed B.named
  have hlocks := B.notSynchronized
  have hin : meth.name = "<init>" := (name_of_methodNamed B.named B.method).1
  subst hsz
  have hD := hD0.self (sz := s.heap.size)
  generalize hAe : va_A ([(y0, .inr (2, [.int 0, .null, .null, .null, .null, .null, .null, .int 0, .int 0]))]) s.heap.size = A at *
  have hA : ∀ q : Nat, s.heap.size ≤ q → A q := fun q h => by rw [← hAe]; exact Or.inr h
  have hS : va_S A s.heap s.heap [] := va_S.rf
  have hl := lv_entry ([.ref y0]) (n := 1) (Nat.le_of_ble_eq_true rfl)
  rw [lg_entry_eq]
  generalize (lg_sl ([.ref y0]) ++ List.replicate (1 - (lg_sl ([.ref y0])).length) Slot.unset).toArray = ls at hl ⊢
  have hl : lv_has ls 1 [(0, .ref y0)] := hl
  refine lv_aload_n hx hb d_M_init_0 rfl (lv_at hl 0 rfl) ?_
  refine W.objInit hx hb hown (hts _ kl_M_1) (hts _ ki_objectInit) (hts _ kc_obj) rfl (by rw [hml]; exact hl.1) rfl d_M_init_1 (Nat.le_of_ble_eq_true rfl) (Nat.le_of_ble_eq_true rfl) ?_
  refine W.eq (g2 := F0 m 4 ls []) rfl ?_
  refine lv_aload_n hx hb d_M_init_4 rfl (lv_at hl 0 rfl) ?_
  refine lv_bipush (v := 31) hx hb d_M_init_5 (by decide) ?_
  refine lv_sipush (v := 256) hx hb d_M_init_7 (by decide) ?_
  refine va_newm (ty := .long) (own := RM) (index := 7) (n := 31) (k := 256) (N := 31) (M := 256) (a0 := (256, .inr (.inl (fun _ => 0)))) hx hb hown ?_ ?_ (hts _ kr_long) (fun _ h => h) hK hP hD hS hA ?_ ?_ ?_ ?_ ?_ ?_ ?_ ?_ ?_ ?_ ?_ ?_ d_M_init_10 ?_
  · rw [nmJJ]; exact hts _ kk_M_7
  · exact hao1
  · exact fun _ => rfl
  · decide
  · decide
  · decide
  · decide
  · decide
  · decide
  · decide
  · rfl
  · rfl
  · exact Nat.le_of_ble_eq_true rfl
  · exact Nat.le_of_ble_eq_true rfl
  intro y1 cA cC H hK1 hP hD hS
  obtain rfl : cA = k 2 := ra_eq (hK1.2 6 _ rfl).2 (hK1.2 2 _ rfl).2
  obtain rfl : cC = k 0 := ra_eq (hK1.2 7 _ rfl).2 (hK1.2 0 _ rfl).2
  refine va_putF (D := D) (ci := 2) (v := .ref y1) (ty := .array (.array .long)) (C := RM) (T := TM) (N := 9) hx hb hts kin_M tM tyM nmM hown hK hP hD hS 0 rfl rfl 1 (by decide) (hts _ kf_M_9) (fun _ h9 => h9) rfl hin rfl (by decide +kernel) rfl rfl (Nat.le_of_ble_eq_true rfl) d_M_init_14 (fun H locs hP hD hS => ?_)
  have hP : va_P D wCl ([(y0, .inr (2, [.int 0, .ref y1, .null, .null, .null, .null, .null, .int 0, .int 0]))] ++ ((y1, .inl (k 2, 31, .inr (.inr (.inr (.inr (fun i => some (y1 + 1 + i))))))) :: rg 31 (fun i => (y1 + 1 + i, .inl (k 0, 256, .inr (.inl (fun _ => 0))))))) H := hP
  have hD : va_D A ([(y0, .inr (2, [.int 0, .ref y1, .null, .null, .null, .null, .null, .int 0, .int 0]))] ++ ((y1, .inl (k 2, 31, .inr (.inr (.inr (.inr (fun i => some (y1 + 1 + i))))))) :: rg 31 (fun i => (y1 + 1 + i, .inl (k 0, 256, .inr (.inl (fun _ => 0))))))) := hD
  refine lv_aload_n hx hb d_M_init_17 rfl (lv_at hl 0 rfl) ?_
  refine lv_bipush (v := 31) hx hb d_M_init_18 (by decide) ?_
  refine lv_sipush (v := 256) hx hb d_M_init_20 (by decide) ?_
  refine va_newm (ty := .boolean) (own := RM) (index := 14) (n := 31) (k := 256) (N := 31) (M := 256) (a0 := (256, .inl (fun _ => 0))) hx hb hown ?_ ?_ (hts _ kr_boolean) (fun _ h => h) hK hP hD hS hA ?_ ?_ ?_ ?_ ?_ ?_ ?_ ?_ ?_ ?_ ?_ ?_ d_M_init_23 ?_
  · rw [nmZZ]; exact hts _ kk_M_14
  · exact hao2
  · exact fun _ => rfl
  · decide
  · decide
  · decide
  · decide
  · decide
  · decide
  · decide
  · rfl
  · rfl
  · exact Nat.le_of_ble_eq_true rfl
  · exact Nat.le_of_ble_eq_true rfl
  intro y2 cA cC H hK1 hP hD hS
  obtain rfl : cA = k 3 := ra_eq (hK1.2 6 _ rfl).2 (hK1.2 3 _ rfl).2
  obtain rfl : cC = k 5 := ra_eq (hK1.2 7 _ rfl).2 (hK1.2 5 _ rfl).2
  refine va_putF (D := D) (ci := 2) (v := .ref y2) (ty := .array (.array .boolean)) (C := RM) (T := TM) (N := 9) hx hb hts kin_M tM tyM nmM hown hK hP hD hS 0 rfl rfl 2 (by decide) (hts _ kf_M_16) (fun _ h9 => h9) rfl hin rfl (by decide +kernel) rfl rfl (Nat.le_of_ble_eq_true rfl) d_M_init_27 (fun H locs hP hD hS => ?_)
  have hP : va_P D wCl ([(y0, .inr (2, [.int 0, .ref y1, .ref y2, .null, .null, .null, .null, .int 0, .int 0]))] ++ ((y1, .inl (k 2, 31, .inr (.inr (.inr (.inr (fun i => some (y1 + 1 + i))))))) :: rg 31 (fun i => (y1 + 1 + i, .inl (k 0, 256, .inr (.inl (fun _ => 0)))))) ++ ((y2, .inl (k 3, 31, .inr (.inr (.inr (.inr (fun i => some (y2 + 1 + i))))))) :: rg 31 (fun i => (y2 + 1 + i, .inl (k 5, 256, .inl (fun _ => 0)))))) H := hP
  have hD : va_D A ([(y0, .inr (2, [.int 0, .ref y1, .ref y2, .null, .null, .null, .null, .int 0, .int 0]))] ++ ((y1, .inl (k 2, 31, .inr (.inr (.inr (.inr (fun i => some (y1 + 1 + i))))))) :: rg 31 (fun i => (y1 + 1 + i, .inl (k 0, 256, .inr (.inl (fun _ => 0)))))) ++ ((y2, .inl (k 3, 31, .inr (.inr (.inr (.inr (fun i => some (y2 + 1 + i))))))) :: rg 31 (fun i => (y2 + 1 + i, .inl (k 5, 256, .inl (fun _ => 0)))))) := hD
  refine lv_aload_n hx hb d_M_init_30 rfl (lv_at hl 0 rfl) ?_
  refine lv_bipush (v := 31) hx hb d_M_init_31 (by decide) ?_
  refine va_newa (atype := .int) hx hb (hts _ kr_int) (ty := .int) rfl hK hP hD hS hA (N' := 31) (a0 := (31, .inl (fun _ => 0))) (fun _ => rfl) (by decide) (by decide) (by decide) (Nat.le_of_ble_eq_true rfl) (Nat.le_of_ble_eq_true rfl) d_M_init_33 (fun y3 cA H hK1 hP hD hS => ?_)
  obtain rfl : cA = k 4 := ra_eq (hK1.2 6 _ rfl).2 (hK1.2 4 _ rfl).2
  refine va_putF (D := D) (ci := 2) (v := .ref y3) (ty := .array .int) (C := RM) (T := TM) (N := 9) hx hb hts kin_M tM tyM nmM hown hK hP hD hS 0 rfl rfl 3 (by decide) (hts _ kf_M_19) (fun _ h9 => h9) rfl hin rfl (by decide +kernel) rfl rfl (Nat.le_of_ble_eq_true rfl) d_M_init_35 (fun H locs hP hD hS => ?_)
  have hP : va_P D wCl ([(y0, .inr (2, [.int 0, .ref y1, .ref y2, .ref y3, .null, .null, .null, .int 0, .int 0]))] ++ ((y1, .inl (k 2, 31, .inr (.inr (.inr (.inr (fun i => some (y1 + 1 + i))))))) :: rg 31 (fun i => (y1 + 1 + i, .inl (k 0, 256, .inr (.inl (fun _ => 0)))))) ++ ((y2, .inl (k 3, 31, .inr (.inr (.inr (.inr (fun i => some (y2 + 1 + i))))))) :: rg 31 (fun i => (y2 + 1 + i, .inl (k 5, 256, .inl (fun _ => 0))))) ++ [(y3, .inl (k 4, 31, .inl (fun _ => 0)))]) H := hP
  have hD : va_D A ([(y0, .inr (2, [.int 0, .ref y1, .ref y2, .ref y3, .null, .null, .null, .int 0, .int 0]))] ++ ((y1, .inl (k 2, 31, .inr (.inr (.inr (.inr (fun i => some (y1 + 1 + i))))))) :: rg 31 (fun i => (y1 + 1 + i, .inl (k 0, 256, .inr (.inl (fun _ => 0)))))) ++ ((y2, .inl (k 3, 31, .inr (.inr (.inr (.inr (fun i => some (y2 + 1 + i))))))) :: rg 31 (fun i => (y2 + 1 + i, .inl (k 5, 256, .inl (fun _ => 0))))) ++ [(y3, .inl (k 4, 31, .inl (fun _ => 0)))]) := hD
  refine lv_aload_n hx hb d_M_init_38 rfl (lv_at hl 0 rfl) ?_
  refine lv_sipush (v := 256) hx hb d_M_init_39 (by decide) ?_
  refine va_newa (atype := .long) hx hb (hts _ kr_long) (ty := .long) rfl hK hP hD hS hA (N' := 256) (a0 := (256, .inr (.inl (fun _ => 0)))) (fun _ => rfl) (by decide) (by decide) (by decide) (Nat.le_of_ble_eq_true rfl) (Nat.le_of_ble_eq_true rfl) d_M_init_42 (fun y4 cA H hK1 hP hD hS => ?_)
  obtain rfl : cA = k 0 := ra_eq (hK1.2 6 _ rfl).2 (hK1.2 0 _ rfl).2
  refine va_putF (D := D) (ci := 2) (v := .ref y4) (ty := .array .long) (C := RM) (T := TM) (N := 9) hx hb hts kin_M tM tyM nmM hown hK hP hD hS 0 rfl rfl 4 (by decide) (hts _ kf_M_23) (fun _ h9 => h9) rfl hin rfl (by decide +kernel) rfl rfl (Nat.le_of_ble_eq_true rfl) d_M_init_44 (fun H locs hP hD hS => ?_)
  have hP : va_P D wCl ([(y0, .inr (2, [.int 0, .ref y1, .ref y2, .ref y3, .ref y4, .null, .null, .int 0, .int 0]))] ++ ((y1, .inl (k 2, 31, .inr (.inr (.inr (.inr (fun i => some (y1 + 1 + i))))))) :: rg 31 (fun i => (y1 + 1 + i, .inl (k 0, 256, .inr (.inl (fun _ => 0)))))) ++ ((y2, .inl (k 3, 31, .inr (.inr (.inr (.inr (fun i => some (y2 + 1 + i))))))) :: rg 31 (fun i => (y2 + 1 + i, .inl (k 5, 256, .inl (fun _ => 0))))) ++ [(y3, .inl (k 4, 31, .inl (fun _ => 0)))] ++ [(y4, .inl (k 0, 256, .inr (.inl (fun _ => 0))))]) H := hP
  have hD : va_D A ([(y0, .inr (2, [.int 0, .ref y1, .ref y2, .ref y3, .ref y4, .null, .null, .int 0, .int 0]))] ++ ((y1, .inl (k 2, 31, .inr (.inr (.inr (.inr (fun i => some (y1 + 1 + i))))))) :: rg 31 (fun i => (y1 + 1 + i, .inl (k 0, 256, .inr (.inl (fun _ => 0)))))) ++ ((y2, .inl (k 3, 31, .inr (.inr (.inr (.inr (fun i => some (y2 + 1 + i))))))) :: rg 31 (fun i => (y2 + 1 + i, .inl (k 5, 256, .inl (fun _ => 0))))) ++ [(y3, .inl (k 4, 31, .inl (fun _ => 0)))] ++ [(y4, .inl (k 0, 256, .inr (.inl (fun _ => 0))))]) := hD
  refine lv_aload_n hx hb d_M_init_47 rfl (lv_at hl 0 rfl) ?_
  refine lv_sipush (v := 256) hx hb d_M_init_48 (by decide) ?_
  refine va_newa (atype := .long) hx hb (hts _ kr_long) (ty := .long) rfl hK hP hD hS hA (N' := 256) (a0 := (256, .inr (.inl (fun _ => 0)))) (fun _ => rfl) (by decide) (by decide) (by decide) (Nat.le_of_ble_eq_true rfl) (Nat.le_of_ble_eq_true rfl) d_M_init_51 (fun y5 cA H hK1 hP hD hS => ?_)
  obtain rfl : cA = k 0 := ra_eq (hK1.2 6 _ rfl).2 (hK1.2 0 _ rfl).2
  refine va_putF (D := D) (ci := 2) (v := .ref y5) (ty := .array .long) (C := RM) (T := TM) (N := 9) hx hb hts kin_M tM tyM nmM hown hK hP hD hS 0 rfl rfl 5 (by decide) (hts _ kf_M_27) (fun _ h9 => h9) rfl hin rfl (by decide +kernel) rfl rfl (Nat.le_of_ble_eq_true rfl) d_M_init_53 (fun H locs hP hD hS => ?_)
  have hP : va_P D wCl ([(y0, .inr (2, [.int 0, .ref y1, .ref y2, .ref y3, .ref y4, .ref y5, .null, .int 0, .int 0]))] ++ ((y1, .inl (k 2, 31, .inr (.inr (.inr (.inr (fun i => some (y1 + 1 + i))))))) :: rg 31 (fun i => (y1 + 1 + i, .inl (k 0, 256, .inr (.inl (fun _ => 0)))))) ++ ((y2, .inl (k 3, 31, .inr (.inr (.inr (.inr (fun i => some (y2 + 1 + i))))))) :: rg 31 (fun i => (y2 + 1 + i, .inl (k 5, 256, .inl (fun _ => 0))))) ++ [(y3, .inl (k 4, 31, .inl (fun _ => 0)))] ++ [(y4, .inl (k 0, 256, .inr (.inl (fun _ => 0))))] ++ [(y5, .inl (k 0, 256, .inr (.inl (fun _ => 0))))]) H := hP
  have hD : va_D A ([(y0, .inr (2, [.int 0, .ref y1, .ref y2, .ref y3, .ref y4, .ref y5, .null, .int 0, .int 0]))] ++ ((y1, .inl (k 2, 31, .inr (.inr (.inr (.inr (fun i => some (y1 + 1 + i))))))) :: rg 31 (fun i => (y1 + 1 + i, .inl (k 0, 256, .inr (.inl (fun _ => 0)))))) ++ ((y2, .inl (k 3, 31, .inr (.inr (.inr (.inr (fun i => some (y2 + 1 + i))))))) :: rg 31 (fun i => (y2 + 1 + i, .inl (k 5, 256, .inl (fun _ => 0))))) ++ [(y3, .inl (k 4, 31, .inl (fun _ => 0)))] ++ [(y4, .inl (k 0, 256, .inr (.inl (fun _ => 0))))] ++ [(y5, .inl (k 0, 256, .inr (.inl (fun _ => 0))))]) := hD
  refine lv_aload_n hx hb d_M_init_56 rfl (lv_at hl 0 rfl) ?_
  refine lv_sipush (v := 256) hx hb d_M_init_57 (by decide) ?_
  refine va_newa (atype := .boolean) hx hb (hts _ kr_boolean) (ty := .boolean) rfl hK hP hD hS hA (N' := 256) (a0 := (256, .inl (fun _ => 0))) (fun _ => rfl) (by decide) (by decide) (by decide) (Nat.le_of_ble_eq_true rfl) (Nat.le_of_ble_eq_true rfl) d_M_init_60 (fun y6 cA H hK1 hP hD hS => ?_)
  obtain rfl : cA = k 5 := ra_eq (hK1.2 6 _ rfl).2 (hK1.2 5 _ rfl).2
  refine va_putF (D := D) (ci := 2) (v := .ref y6) (ty := .array .boolean) (C := RM) (T := TM) (N := 9) hx hb hts kin_M tM tyM nmM hown hK hP hD hS 0 rfl rfl 6 (by decide) (hts _ kf_M_30) (fun _ h9 => h9) rfl hin rfl (by decide +kernel) rfl rfl (Nat.le_of_ble_eq_true rfl) d_M_init_62 (fun H locs hP hD hS => ?_)
  have hP : va_P D wCl ([(y0, .inr (2, [.int 0, .ref y1, .ref y2, .ref y3, .ref y4, .ref y5, .ref y6, .int 0, .int 0]))] ++ ((y1, .inl (k 2, 31, .inr (.inr (.inr (.inr (fun i => some (y1 + 1 + i))))))) :: rg 31 (fun i => (y1 + 1 + i, .inl (k 0, 256, .inr (.inl (fun _ => 0)))))) ++ ((y2, .inl (k 3, 31, .inr (.inr (.inr (.inr (fun i => some (y2 + 1 + i))))))) :: rg 31 (fun i => (y2 + 1 + i, .inl (k 5, 256, .inl (fun _ => 0))))) ++ [(y3, .inl (k 4, 31, .inl (fun _ => 0)))] ++ [(y4, .inl (k 0, 256, .inr (.inl (fun _ => 0))))] ++ [(y5, .inl (k 0, 256, .inr (.inl (fun _ => 0))))] ++ [(y6, .inl (k 5, 256, .inl (fun _ => 0)))]) H := hP
  have hD : va_D A ([(y0, .inr (2, [.int 0, .ref y1, .ref y2, .ref y3, .ref y4, .ref y5, .ref y6, .int 0, .int 0]))] ++ ((y1, .inl (k 2, 31, .inr (.inr (.inr (.inr (fun i => some (y1 + 1 + i))))))) :: rg 31 (fun i => (y1 + 1 + i, .inl (k 0, 256, .inr (.inl (fun _ => 0)))))) ++ ((y2, .inl (k 3, 31, .inr (.inr (.inr (.inr (fun i => some (y2 + 1 + i))))))) :: rg 31 (fun i => (y2 + 1 + i, .inl (k 5, 256, .inl (fun _ => 0))))) ++ [(y3, .inl (k 4, 31, .inl (fun _ => 0)))] ++ [(y4, .inl (k 0, 256, .inr (.inl (fun _ => 0))))] ++ [(y5, .inl (k 0, 256, .inr (.inl (fun _ => 0))))] ++ [(y6, .inl (k 5, 256, .inl (fun _ => 0)))]) := hD
  obtain ⟨hP, hD⟩ := wmn_eq k y0 y1 y2 y3 y4 y5 y6 (hP.perm (wmn_perm _ _ _ _ _ _ _ _ _)) (hD.perm (wmn_perm _ _ _ _ _ _ _ _ _))
  refine W.widen (k := 68) (n := 16733) (by omega) (by omega) ?_
  exact W.vret hx hb hr (fun t ht hW => ⟨⟨bxf y0 y1 y2 y3 y4 y5 y6, rfl, rfl, atP hP ht, hD⟩, hS.F ht⟩) hS.2.2 d_M_init_65
