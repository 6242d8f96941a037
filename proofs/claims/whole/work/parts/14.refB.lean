/-! the reference: begin, open, close -/
theorem kt_up (T : Nat → Nat → Bool) (i : Nat) (g : Nat → Bool) (j : Nat) (q : Bool) : va_up (fun x => zb (va_up T i g x)) i (upd (zb (va_up T i g i)) j (vp_nar .boolean (if q then 1 else 0))) = fun x => zb (va_up T i (va_up g j q) x) := by
  rw [va_up_self, zb_up g j q rfl]
  funext x
  by_cases h : x = i <;> simp [va_up, h]
theorem kt_id (T : Nat → Nat → Bool) (i : Nat) : (fun x => zb (va_up T i (T i) x)) = fun x => zb (T x) := by rw [up_id]
/-- how many of the first n are so -/
def cntb (t : Nat → Bool) : Nat → Nat
  | 0 => 0
  | n + 1 => cntb t n + (if t n then 1 else 0)

set_option maxHeartbeats 4000000 in
set_option maxRecDepth 100000 in
theorem m_M_begin (l : Launch) (D : va_G) (k : Nat → ClassId) (b : Nat → Nat) (f r d : Int32) (N F : Nat → Int64) (t : Nat → Bool) (KR : Nat → Int32) (K : Nat → Nat → Int64) (T : Nat → Nat → Bool) (sz : Nat) : Met l y_M_begin (w_M_begin :: TB) rM (va_Pc [.ref (b 0)] (PW D k (WM k b f r d N F (zb t) KR K (fun i => zb (T i))) sz)) (va_Qi (fun (x : Int32) (u : (Nat → Int64) × (Nat → Bool)) => (∀ j, j < 256 → u.1 j = N j) ∧ (∀ j, j < 256 → u.2 j = false) ∧ x = nI (cnt N 256)) (fun u t9 => va_P D wCl (WM k b 0 0 (nI 0) N u.1 (zb u.2) KR K (fun i => zb (T i))) t9.heap) (va_A (WM k b f r d N F (zb t) KR K (fun i => zb (T i))) sz)) 0 0 (va_A (WM k b f r d N F (zb t) KR K (fun i => zb (T i))) sz) := by
  refine Met.ofW (cc := b_M_begin) (maxL := 2) (ret := some .int) (by decide) rfl ?_
  intro p e s m args below meth c s₁ B hml hv
  obtain ⟨rfl, hsz, hP, hK, hD0, hE⟩ := hv
  have hx := B.exec
  have hb := B.bytes
  have hr := B.returns
  have hts0 := atoms_spec (ws := w_M_begin :: TB) B.pre
  have hts := fun w (hw : w ∈ TB) => hts0 w (List.mem_cons_of_mem _ hw)
  have hown : s.vm.findClass RM = some m.cls := findClass_of_methodNamed B.named
  have hlocks := B.notSynchronized
  subst hsz
  have hD := hD0.self (sz := s.heap.size)
  generalize hAe : va_A (WM k b f r d N F (zb t) KR K (fun i => zb (T i))) s.heap.size = A at *
  have hA : ∀ q : Nat, s.heap.size ≤ q → A q := fun q h => by rw [← hAe]; exact Or.inr h
  have hS : va_S A s.heap s.heap [] := va_S.rf
  have hl := lv_entry ([.ref (b 0)]) (n := 2) (Nat.le_of_ble_eq_true rfl)
  rw [lg_entry_eq]
  generalize (lg_sl ([.ref (b 0)]) ++ List.replicate (2 - (lg_sl ([.ref (b 0)])).length) Slot.unset).toArray = ls at hl ⊢
  have hl : lv_has ls 2 [(0, .ref (b 0))] := hl
  refine lv_aload_n hx hb d_M_begin_0 rfl (lv_at hl 0 rfl) ?_
  refine lv_iconst (v := 0) hx hb d_M_begin_1 (by decide) ?_
  refine va_put (D := D) (ci := 2) (v := .int 0) (ty := .int) (C := RM) (T := TM) (N := 9) hx hb hts kin_M tM tyM nmM hown hK hP hD hS 0 rfl rfl 0 (by decide) (hts _ kf_M_34) (fun _ h9 => h9) rfl (by decide +kernel) rfl rfl (Nat.le_of_ble_eq_true rfl) d_M_begin_2 (fun H locs hP hD hS => ?_)
  have hP : va_P D wCl (WM k b 0 r d N F (zb t) KR K (fun i => zb (T i))) H := hP
  have hD : va_D A (WM k b 0 r d N F (zb t) KR K (fun i => zb (T i))) := hD
  refine lv_iconst (v := 0) hx hb d_M_begin_5 (by decide) ?_
  refine lv_istore_n (lv' := [(1, .int 0), (0, .ref (b 0))]) hx hb d_M_begin_6 rfl hl (by decide) rfl (fun ls hl => ?_)
  generalize H = H9 at hP hS ⊢
  generalize locs = locs9 at hS ⊢
  generalize hRR : (headSpec (w_M_begin :: TB) rM).room = RR
  generalize hQQ : MQ below (va_Qi (fun (x : Int32) (u : (Nat → Int64) × (Nat → Bool)) => (∀ j, j < 256 → u.1 j = N j) ∧ (∀ j, j < 256 → u.2 j = false) ∧ x = nI (cnt N 256)) (fun u t9 => va_P D wCl (WM k b 0 0 (nI 0) N u.1 (zb u.2) KR K (fun i => zb (T i))) t9.heap) A) [.ref (b 0)].toArray s 0 0 A = QQ
  have loop : ∀ (n j : Nat), j ≤ 256 → 257 ≤ j + n → ∀ (F2 : Nat → Int64) (t2 : Nat → Bool), (∀ q, q < j → F2 q = N q) → (∀ q, q < j → t2 q = false) → ∀ (H : Heap) (locs : List Loc), va_P D wCl (WM k b 0 r d N F2 (zb t2) KR K (fun i => zb (T i))) H → va_D A (WM k b 0 r d N F2 (zb t2) KR K (fun i => zb (T i))) → va_S A s.heap H locs → ∀ (ls : Array Slot), lv_has ls 2 [(1, .int (nI j)), (0, .ref (b 0))] → W p l e RR s m [.ref (b 0)].toArray below meth c H locs 0 0 QQ (F0 m 7 ls []) := by
    intro n
    induction n with
    | zero =>
      intro j h1 h2
      exact absurd h2 (by omega)
    | succ n ih =>
      intro j hj hjn F2 t2 hF ht2 H locs hP hD hS ls hl
      refine lv_iload_n hx hb d_M_begin_7 rfl (lv_at hl 0 rfl) ?_
      refine lv_sipush (v := 256) hx hb d_M_begin_8 (by decide) ?_
      refine lv_icmp_ge (tgt := 39) hx hb d_M_begin_11 (by decide) (fun c_11 => ?_) (fun c_11 => ?_)
      · have hj : j = 256 := by
          rcases Nat.lt_or_ge j 256 with q | q
          · exact absurd c_11 (nI_ge q (by decide))
          · omega
        subst hj
        subst hRR hQQ
        refine lv_aload_n hx hb d_M_begin_39 rfl (lv_at hl 1 rfl) ?_
        refine lv_iconst (v := 0) hx hb d_M_begin_40 (by decide) ?_
        refine va_put (D := D) (ci := 2) (v := .int 0) (ty := .int) (C := RM) (T := TM) (N := 9) hx hb hts kin_M tM tyM nmM hown hK hP hD hS 0 rfl rfl 7 (by decide) (hts _ kf_M_38) (fun _ h9 => h9) rfl (by decide +kernel) rfl rfl (Nat.le_of_ble_eq_true rfl) d_M_begin_41 (fun H locs hP hD hS => ?_)
        have hP : va_P D wCl (WM k b 0 0 d N F2 (zb t2) KR K (fun i => zb (T i))) H := hP
        have hD : va_D A (WM k b 0 0 d N F2 (zb t2) KR K (fun i => zb (T i))) := hD
        refine lv_aload_n hx hb d_M_begin_44 rfl (lv_at hl 1 rfl) ?_
        refine lv_iconst (v := 0) hx hb d_M_begin_45 (by decide) ?_
        refine va_put (D := D) (ci := 2) (v := .int 0) (ty := .int) (C := RM) (T := TM) (N := 9) hx hb hts kin_M tM tyM nmM hown hK hP hD hS 0 rfl rfl 8 (by decide) (hts _ kf_M_41) (fun _ h9 => h9) rfl (by decide +kernel) rfl rfl (Nat.le_of_ble_eq_true rfl) d_M_begin_46 (fun H locs hP hD hS => ?_)
        have hP : va_P D wCl (WM k b 0 0 0 N F2 (zb t2) KR K (fun i => zb (T i))) H := hP
        have hD : va_D A (WM k b 0 0 0 N F2 (zb t2) KR K (fun i => zb (T i))) := hD
        refine lv_aload_n hx hb d_M_begin_49 rfl (lv_at hl 1 rfl) ?_
        refine vp_callSi (va_runV (As := []) (rest := []) (C := RM) ⟨hx, hb, hml, hown, hts⟩ (m_M_filled l D k b 0 0 0 N F2 t2 KR K T _) (cwV 0 hts (TB_g kl_M_44 ki_M_filled ks_M_filled kz_M (TB_c kc_M_filled)) rfl rfl rfl (by decide +kernel) ⟨Nat.le_of_ble_eq_true rfl, Nat.le_of_ble_eq_true rfl⟩) ⟨PW.bl, va_recv (q := (RM, TM, 9)) (ci := 2) (q0 := 0) hK hP rfl rfl, fun U hU hW => ⟨rfl, PW.go hK hP hD hS hA hE hU hW⟩⟩ rfl rfl hl.1 rfl (lv_room (Nat.le_of_ble_eq_true rfl)) d_M_begin_50 ⟨Nat.zero_le _, Nat.zero_le _⟩).run (fun r1 hr1 => ?_)
        exact W.iret (v := r1) hx hb hr (fun t9 ht hW => ⟨⟨_, (F2, t2), rfl, ⟨hF, ht2, hr1⟩, atP hP ht⟩, hS.F ht⟩) hS.2.2 d_M_begin_53
      · have hlt : j < 256 := by
          rcases Nat.lt_or_ge j 256 with q | q
          · exact q
          · exact absurd (nI_le q (by omega)) c_11
        refine lv_aload_n hx hb d_M_begin_14 rfl (lv_at hl 1 rfl) ?_
        refine va_get (D := D) (ci := 2) (v := .ref (b 5)) (C := RM) (T := TM) (N := 9) hx hb hts kin_M hown hK hP 0 rfl rfl 5 (by decide) (hts _ kf_M_27) (fun _ h9 => h9) rfl d_M_begin_15 ?_
        refine lv_iload_n hx hb d_M_begin_18 rfl (lv_at hl 0 rfl) ?_
        refine lv_aload_n hx hb d_M_begin_19 rfl (lv_at hl 1 rfl) ?_
        refine va_get (D := D) (ci := 2) (v := .ref (b 4)) (C := RM) (T := TM) (N := 9) hx hb hts kin_M hown hK hP 0 rfl rfl 4 (by decide) (hts _ kf_M_23) (fun _ h9 => h9) rfl d_M_begin_20 ?_
        refine lv_iload_n hx hb d_M_begin_23 rfl (lv_at hl 0 rfl) ?_
        refine va_lald hx hb hK hP 4 0 rfl rfl (vp_in_nI hlt (by decide)) d_M_begin_24 ?_
        refine va_last hx hb hK hP hD hS 5 0 rfl rfl (vp_in_nI hlt (by decide)) d_M_begin_25 (fun H locs hP hD hS => ?_)
        rw [nI_clamp (show j < 2 ^ 31 by omega)] at hP hD
        have hP : va_P D wCl (WM k b 0 r d N (vp_updL F2 j (N j)) (zb t2) KR K (fun i => zb (T i))) H := hP
        have hD : va_D A (WM k b 0 r d N (vp_updL F2 j (N j)) (zb t2) KR K (fun i => zb (T i))) := hD
        refine lv_aload_n hx hb d_M_begin_26 rfl (lv_at hl 1 rfl) ?_
        refine va_get (D := D) (ci := 2) (v := .ref (b 6)) (C := RM) (T := TM) (N := 9) hx hb hts kin_M hown hK hP 0 rfl rfl 6 (by decide) (hts _ kf_M_30) (fun _ h9 => h9) rfl d_M_begin_27 ?_
        refine lv_iload_n hx hb d_M_begin_30 rfl (lv_at hl 0 rfl) ?_
        refine lv_iconst (v := 0) hx hb d_M_begin_31 (by decide) ?_
        refine va_zast hx hb hK hP hD hS 6 5 rfl rfl (vp_in_nI hlt (by decide)) d_M_begin_32 (fun H locs hP hD hS => ?_)
        rw [nI_clamp (show j < 2 ^ 31 by omega), zb_up t2 j false (x := 0) rfl] at hP hD
        have hP : va_P D wCl (WM k b 0 r d N (vp_updL F2 j (N j)) (zb (va_up t2 j false)) KR K (fun i => zb (T i))) H := hP
        have hD : va_D A (WM k b 0 r d N (vp_updL F2 j (N j)) (zb (va_up t2 j false)) KR K (fun i => zb (T i))) := hD
        refine lv_iinc (v := (nI j) + 1) (lv' := [(1, .int ((nI j) + 1)), (0, .ref (b 0))]) hx hb d_M_begin_33 hl (k := 0) rfl rfl (by decide) rfl (fun ls hl => ?_)
        refine lv_goto (tgt := 7) hx hb d_M_begin_36 (by decide) ?_
        refine ih (j + 1) hlt (by omega) _ _ (fun q hq => ?_) (fun q hq => ?_) H locs hP hD hS ls ?_
        · by_cases h : q = j
          · rw [h]; exact pk_uLs
          · rw [pk_uLn h]; exact hF q (by omega)
        · by_cases h : q = j
          · rw [h]; exact va_up_self _ _ _
          · rw [va_up_ne _ _ h]; exact ht2 q (by omega)
        · rw [← nI_1 j]; exact lv_sub hl [0, 1] rfl
  exact loop 257 0 (by omega) (by omega) F t (fun q h => absurd h (Nat.not_lt_zero q)) (fun q h => absurd h (Nat.not_lt_zero q)) H9 locs9 hP hD hS ls (lv_sub hl [0, 1] rfl)
set_option maxHeartbeats 4000000 in
set_option maxRecDepth 100000 in
theorem m_M_open (l : Launch) (D : va_G) (k : Nat → ClassId) (b : Nat → Nat) (f r : Int32) (d : Nat) (hd : d ≤ 30) (N F : Nat → Int64) (t : Nat → Bool) (KR : Nat → Int32) (K : Nat → Nat → Int64) (T : Nat → Nat → Bool) (sz : Nat) : Met l y_M_open (w_M_open :: TB) rM (va_Pc [.ref (b 0)] (PW D k (WM k b f r (nI d) N F (zb t) KR K (fun i => zb (T i))) sz)) (va_Qi (fun (x : Int32) (u : Int32 × Nat × (Nat → Int32) × (Nat → Nat → Int64) × (Nat → Nat → Bool)) => (¬ d < 30 ∧ x = 0 ∧ u = (1, d, KR, K, T)) ∨ (d < 30 ∧ x = nI (d + 1) ∧ u.1 = 0 ∧ u.2.1 = d + 1 ∧ u.2.2.1 = upd KR (d + 1) r ∧ (∃ g, (∀ j, j < 256 → g j = N j) ∧ u.2.2.2.1 = va_up K (d + 1) g) ∧ (∃ g, (∀ j, j < 256 → g j = t j) ∧ u.2.2.2.2 = va_up T (d + 1) g))) (fun u t9 => va_P D wCl (WM k b u.1 r (nI u.2.1) N F (zb t) u.2.2.1 u.2.2.2.1 (fun i => zb (u.2.2.2.2 i))) t9.heap) (va_A (WM k b f r (nI d) N F (zb t) KR K (fun i => zb (T i))) sz)) 0 0 (va_A (WM k b f r (nI d) N F (zb t) KR K (fun i => zb (T i))) sz) := by
  refine Met.ofW (cc := b_M_open) (maxL := 2) (ret := some .int) (by decide) rfl ?_
  intro p e s m args below meth c s₁ B hml hv
  obtain ⟨rfl, hsz, hP, hK, hD0, hE⟩ := hv
  have hx := B.exec
  have hb := B.bytes
  have hr := B.returns
  have hts0 := atoms_spec (ws := w_M_open :: TB) B.pre
  have hts := fun w (hw : w ∈ TB) => hts0 w (List.mem_cons_of_mem _ hw)
  have hown : s.vm.findClass RM = some m.cls := findClass_of_methodNamed B.named
  have hlocks := B.notSynchronized
  subst hsz
  have hD := hD0.self (sz := s.heap.size)
  generalize hAe : va_A (WM k b f r (nI d) N F (zb t) KR K (fun i => zb (T i))) s.heap.size = A at *
  have hA : ∀ q : Nat, s.heap.size ≤ q → A q := fun q h => by rw [← hAe]; exact Or.inr h
  have hS : va_S A s.heap s.heap [] := va_S.rf
  have hl := lv_entry ([.ref (b 0)]) (n := 2) (Nat.le_of_ble_eq_true rfl)
  rw [lg_entry_eq]
  generalize (lg_sl ([.ref (b 0)]) ++ List.replicate (2 - (lg_sl ([.ref (b 0)])).length) Slot.unset).toArray = ls at hl ⊢
  have hl : lv_has ls 2 [(0, .ref (b 0))] := hl
  refine lv_aload_n hx hb d_M_open_0 rfl (lv_at hl 0 rfl) ?_
  refine lv_iconst (v := 0) hx hb d_M_open_1 (by decide) ?_
  refine va_put (D := D) (ci := 2) (v := .int 0) (ty := .int) (C := RM) (T := TM) (N := 9) hx hb hts kin_M tM tyM nmM hown hK hP hD hS 0 rfl rfl 0 (by decide) (hts _ kf_M_34) (fun _ h9 => h9) rfl (by decide +kernel) rfl rfl (Nat.le_of_ble_eq_true rfl) d_M_open_2 (fun H locs hP hD hS => ?_)
  have hP : va_P D wCl (WM k b 0 r (nI d) N F (zb t) KR K (fun i => zb (T i))) H := hP
  have hD : va_D A (WM k b 0 r (nI d) N F (zb t) KR K (fun i => zb (T i))) := hD
  refine lv_aload_n hx hb d_M_open_5 rfl (lv_at hl 0 rfl) ?_
  refine va_get (D := D) (ci := 2) (v := .int (nI d)) (C := RM) (T := TM) (N := 9) hx hb hts kin_M hown hK hP 0 rfl rfl 8 (by decide) (hts _ kf_M_41) (fun _ h9 => h9) rfl d_M_open_6 ?_
  refine lv_bipush (v := 30) hx hb d_M_open_9 (by decide) ?_
  refine lv_icmp_ne (tgt := 20) hx hb d_M_open_11 (by decide) (fun c_11 => ?_) (fun c_11 => ?_)
  · have hd30 : d < 30 := by
      rcases Nat.lt_or_ge d 30 with q | q
      · exact q
      · exact absurd (show nI d = nI 30 by rw [show d = 30 by omega]) c_11
    have hd1 : d + 1 < 31 := by omega
    refine lv_aload_n hx hb d_M_open_20 rfl (lv_at hl 0 rfl) ?_
    refine lv_dup hx hb d_M_open_21 rfl ?_
    refine va_get (D := D) (ci := 2) (v := .int (nI d)) (C := RM) (T := TM) (N := 9) hx hb hts kin_M hown hK hP 0 rfl rfl 8 (by decide) (hts _ kf_M_41) (fun _ h9 => h9) rfl d_M_open_22 ?_
    refine lv_iconst (v := 1) hx hb d_M_open_25 (by decide) ?_
    refine lv_iadd hx hb d_M_open_26 ?_
    rw [nI_1 d]
    refine va_put (D := D) (ci := 2) (v := .int (nI (d + 1))) (ty := .int) (C := RM) (T := TM) (N := 9) hx hb hts kin_M tM tyM nmM hown hK hP hD hS 0 rfl rfl 8 (by decide) (hts _ kf_M_41) (fun _ h9 => h9) rfl (by decide +kernel) rfl rfl (Nat.le_of_ble_eq_true rfl) d_M_open_27 (fun H locs hP hD hS => ?_)
    have hP : va_P D wCl (WM k b 0 r (nI (d + 1)) N F (zb t) KR K (fun i => zb (T i))) H := hP
    have hD : va_D A (WM k b 0 r (nI (d + 1)) N F (zb t) KR K (fun i => zb (T i))) := hD
    refine lv_iconst (v := 0) hx hb d_M_open_30 (by decide) ?_
    refine lv_istore_n (lv' := [(1, .int 0), (0, .ref (b 0))]) hx hb d_M_open_31 rfl hl (by decide) rfl (fun ls hl => ?_)
    generalize H = H9 at hP hS ⊢
    generalize locs = locs9 at hS ⊢
    generalize hRR : (headSpec (w_M_open :: TB) rM).room = RR
    generalize hQQ : MQ below (va_Qi (fun (x : Int32) (u : Int32 × Nat × (Nat → Int32) × (Nat → Nat → Int64) × (Nat → Nat → Bool)) => (¬ d < 30 ∧ x = 0 ∧ u = (1, d, KR, K, T)) ∨ (d < 30 ∧ x = nI (d + 1) ∧ u.1 = 0 ∧ u.2.1 = d + 1 ∧ u.2.2.1 = upd KR (d + 1) r ∧ (∃ g, (∀ j, j < 256 → g j = N j) ∧ u.2.2.2.1 = va_up K (d + 1) g) ∧ (∃ g, (∀ j, j < 256 → g j = t j) ∧ u.2.2.2.2 = va_up T (d + 1) g))) (fun u t9 => va_P D wCl (WM k b u.1 r (nI u.2.1) N F (zb t) u.2.2.1 u.2.2.2.1 (fun i => zb (u.2.2.2.2 i))) t9.heap) A) [.ref (b 0)].toArray s 0 0 A = QQ
    have loop : ∀ (n j : Nat), j ≤ 256 → 257 ≤ j + n → ∀ (g : Nat → Int64) (g2 : Nat → Bool), (∀ q, q < j → g q = N q) → (∀ q, q < j → g2 q = t q) → ∀ (H : Heap) (locs : List Loc), va_P D wCl (WM k b 0 r (nI (d + 1)) N F (zb t) KR (va_up K (d + 1) g) (fun x => zb (va_up T (d + 1) g2 x))) H → va_D A (WM k b 0 r (nI (d + 1)) N F (zb t) KR (va_up K (d + 1) g) (fun x => zb (va_up T (d + 1) g2 x))) → va_S A s.heap H locs → ∀ (ls : Array Slot), lv_has ls 2 [(1, .int (nI j)), (0, .ref (b 0))] → W p l e RR s m [.ref (b 0)].toArray below meth c H locs 0 0 QQ (F0 m 32 ls []) := by
      intro n
      induction n with
      | zero =>
        intro j h1 h2
        exact absurd h2 (by omega)
      | succ n ih =>
        intro j hj hjn g g2 hg hg2 H locs hP hD hS ls hl
        refine lv_iload_n hx hb d_M_open_32 rfl (lv_at hl 0 rfl) ?_
        refine lv_sipush (v := 256) hx hb d_M_open_33 (by decide) ?_
        refine lv_icmp_ge (tgt := 79) hx hb d_M_open_36 (by decide) (fun c_36 => ?_) (fun c_36 => ?_)
        · have hj : j = 256 := by
            rcases Nat.lt_or_ge j 256 with q | q
            · exact absurd c_36 (nI_ge q (by decide))
            · omega
          subst hj
          subst hRR hQQ
          refine lv_aload_n hx hb d_M_open_79 rfl (lv_at hl 1 rfl) ?_
          refine va_get (D := D) (ci := 2) (v := .ref (b 3)) (C := RM) (T := TM) (N := 9) hx hb hts kin_M hown hK hP 0 rfl rfl 3 (by decide) (hts _ kf_M_19) (fun _ h9 => h9) rfl d_M_open_80 ?_
          refine lv_aload_n hx hb d_M_open_83 rfl (lv_at hl 1 rfl) ?_
          refine va_get (D := D) (ci := 2) (v := .int (nI (d + 1))) (C := RM) (T := TM) (N := 9) hx hb hts kin_M hown hK hP 0 rfl rfl 8 (by decide) (hts _ kf_M_41) (fun _ h9 => h9) rfl d_M_open_84 ?_
          refine lv_aload_n hx hb d_M_open_87 rfl (lv_at hl 1 rfl) ?_
          refine va_get (D := D) (ci := 2) (v := .int r) (C := RM) (T := TM) (N := 9) hx hb hts kin_M hown hK hP 0 rfl rfl 7 (by decide) (hts _ kf_M_38) (fun _ h9 => h9) rfl d_M_open_88 ?_
          refine va_iast hx hb hK hP hD hS 3 4 rfl rfl (vp_in_nI hd1 (by decide)) d_M_open_91 (fun H locs hP hD hS => ?_)
          rw [nI_clamp (show d + 1 < 2 ^ 31 by omega)] at hP hD
          have hP : va_P D wCl (WM k b 0 r (nI (d + 1)) N F (zb t) (upd KR (d + 1) r) (va_up K (d + 1) g) (fun x => zb (va_up T (d + 1) g2 x))) H := hP
          have hD : va_D A (WM k b 0 r (nI (d + 1)) N F (zb t) (upd KR (d + 1) r) (va_up K (d + 1) g) (fun x => zb (va_up T (d + 1) g2 x))) := hD
          refine lv_aload_n hx hb d_M_open_92 rfl (lv_at hl 1 rfl) ?_
          refine va_get (D := D) (ci := 2) (v := .int (nI (d + 1))) (C := RM) (T := TM) (N := 9) hx hb hts kin_M hown hK hP 0 rfl rfl 8 (by decide) (hts _ kf_M_41) (fun _ h9 => h9) rfl d_M_open_93 ?_
          exact W.iret (v := nI (d + 1)) hx hb hr (fun t9 ht hW => ⟨⟨_, (0, d + 1, upd KR (d + 1) r, va_up K (d + 1) g, va_up T (d + 1) g2), rfl, Or.inr ⟨hd30, rfl, rfl, rfl, rfl, ⟨g, hg, rfl⟩, ⟨g2, hg2, rfl⟩⟩, atP hP ht⟩, hS.F ht⟩) hS.2.2 d_M_open_96
        · have hlt : j < 256 := by
            rcases Nat.lt_or_ge j 256 with q | q
            · exact q
            · exact absurd (nI_le q (by omega)) c_36
          refine lv_aload_n hx hb d_M_open_39 rfl (lv_at hl 1 rfl) ?_
          refine va_get (D := D) (ci := 2) (v := .ref (b 1)) (C := RM) (T := TM) (N := 9) hx hb hts kin_M hown hK hP 0 rfl rfl 1 (by decide) (hts _ kf_M_9) (fun _ h9 => h9) rfl d_M_open_40 ?_
          refine lv_aload_n hx hb d_M_open_43 rfl (lv_at hl 1 rfl) ?_
          refine va_get (D := D) (ci := 2) (v := .int (nI (d + 1))) (C := RM) (T := TM) (N := 9) hx hb hts kin_M hown hK hP 0 rfl rfl 8 (by decide) (hts _ kf_M_41) (fun _ h9 => h9) rfl d_M_open_44 ?_
          refine va_aldA (ty := .long) hx hb hK hP 1 2 rfl rfl (vp_in_nI hd1 (by decide)) d_M_open_47 ?_
          rw [show ((nI (d + 1)) : Int32).toNatClampNeg = (d + 1) from nI_clamp (by omega)]
          refine W.eq (g2 := F0 m 48 ls [.ref (b (7 + (d + 1)))]) rfl ?_
          refine lv_iload_n hx hb d_M_open_48 rfl (lv_at hl 0 rfl) ?_
          refine lv_aload_n hx hb d_M_open_49 rfl (lv_at hl 1 rfl) ?_
          refine va_get (D := D) (ci := 2) (v := .ref (b 4)) (C := RM) (T := TM) (N := 9) hx hb hts kin_M hown hK hP 0 rfl rfl 4 (by decide) (hts _ kf_M_23) (fun _ h9 => h9) rfl d_M_open_50 ?_
          refine lv_iload_n hx hb d_M_open_53 rfl (lv_at hl 0 rfl) ?_
          refine va_lald hx hb hK hP 4 0 rfl rfl (vp_in_nI hlt (by decide)) d_M_open_54 ?_
          refine va_last hx hb hK hP hD hS ((d + 1) + 7) 0 (wm_k hd1) rfl (vp_in_nI hlt (by decide)) d_M_open_55 (fun H locs hP hD hS => ?_)
          have hP := (congrArg (fun w => va_P D wCl w H) (wm_setK hd1)).mp hP
          have hD := (congrArg (fun w => va_D A w) (wm_setK hd1)).mp hD
          rw [nI_clamp (show j < 2 ^ 31 by omega), va_up_self, bx_uu] at hP hD
          have hP : va_P D wCl (WM k b 0 r (nI (d + 1)) N F (zb t) KR (va_up K (d + 1) (vp_updL g j (N j))) (fun x => zb (va_up T (d + 1) g2 x))) H := hP
          have hD : va_D A (WM k b 0 r (nI (d + 1)) N F (zb t) KR (va_up K (d + 1) (vp_updL g j (N j))) (fun x => zb (va_up T (d + 1) g2 x))) := hD
          refine lv_aload_n hx hb d_M_open_56 rfl (lv_at hl 1 rfl) ?_
          refine va_get (D := D) (ci := 2) (v := .ref (b 2)) (C := RM) (T := TM) (N := 9) hx hb hts kin_M hown hK hP 0 rfl rfl 2 (by decide) (hts _ kf_M_16) (fun _ h9 => h9) rfl d_M_open_57 ?_
          refine lv_aload_n hx hb d_M_open_60 rfl (lv_at hl 1 rfl) ?_
          refine va_get (D := D) (ci := 2) (v := .int (nI (d + 1))) (C := RM) (T := TM) (N := 9) hx hb hts kin_M hown hK hP 0 rfl rfl 8 (by decide) (hts _ kf_M_41) (fun _ h9 => h9) rfl d_M_open_61 ?_
          refine va_aldA (ty := .boolean) hx hb hK hP 2 3 rfl rfl (vp_in_nI hd1 (by decide)) d_M_open_64 ?_
          rw [show ((nI (d + 1)) : Int32).toNatClampNeg = (d + 1) from nI_clamp (by omega)]
          refine W.eq (g2 := F0 m 65 ls [.ref (b (38 + (d + 1)))]) rfl ?_
          refine lv_iload_n hx hb d_M_open_65 rfl (lv_at hl 0 rfl) ?_
          refine lv_aload_n hx hb d_M_open_66 rfl (lv_at hl 1 rfl) ?_
          refine va_get (D := D) (ci := 2) (v := .ref (b 6)) (C := RM) (T := TM) (N := 9) hx hb hts kin_M hown hK hP 0 rfl rfl 6 (by decide) (hts _ kf_M_30) (fun _ h9 => h9) rfl d_M_open_67 ?_
          refine lv_iload_n hx hb d_M_open_70 rfl (lv_at hl 0 rfl) ?_
          refine va_zald hx hb hK hP 6 5 rfl rfl (vp_in_nI hlt (by decide)) d_M_open_71 ?_
          refine va_zast hx hb hK hP hD hS ((d + 1) + 38) 5 (wm_t hd1) rfl (vp_in_nI hlt (by decide)) d_M_open_72 (fun H locs hP hD hS => ?_)
          have hP := (congrArg (fun w => va_P D wCl w H) (wm_setT hd1)).mp hP
          have hD := (congrArg (fun w => va_D A w) (wm_setT hd1)).mp hD
          rw [nI_clamp (show j < 2 ^ 31 by omega)] at hP hD
          have hP : va_P D wCl (WM k b 0 r (nI (d + 1)) N F (zb t) KR (va_up K (d + 1) (vp_updL g j (N j))) (fun x => zb (va_up T (d + 1) (va_up g2 j (t j)) x))) H := by rw [← kt_up T (d + 1) g2 j (t j)]; exact hP
          have hD : va_D A (WM k b 0 r (nI (d + 1)) N F (zb t) KR (va_up K (d + 1) (vp_updL g j (N j))) (fun x => zb (va_up T (d + 1) (va_up g2 j (t j)) x))) := by rw [← kt_up T (d + 1) g2 j (t j)]; exact hD
          refine lv_iinc (v := (nI j) + 1) (lv' := [(1, .int ((nI j) + 1)), (0, .ref (b 0))]) hx hb d_M_open_73 hl (k := 0) rfl rfl (by decide) rfl (fun ls hl => ?_)
          refine lv_goto (tgt := 32) hx hb d_M_open_76 (by decide) ?_
          refine ih (j + 1) hlt (by omega) _ _ (fun q hq => ?_) (fun q hq => ?_) H locs hP hD hS ls ?_
          · by_cases h : q = j
            · rw [h]; exact pk_uLs
            · rw [pk_uLn h]; exact hg q (by omega)
          · by_cases h : q = j
            · rw [h]; exact va_up_self _ _ _
            · rw [va_up_ne _ _ h]; exact hg2 q (by omega)
          · rw [← nI_1 j]; exact lv_sub hl [0, 1] rfl
    refine loop 257 0 (by omega) (by omega) (K (d + 1)) (T (d + 1)) (fun q h => absurd h (Nat.not_lt_zero q)) (fun q h => absurd h (Nat.not_lt_zero q)) H9 locs9 ?_ ?_ hS ls (lv_sub hl [0, 1] rfl)
    · rw [up_id, kt_id]; exact hP
    · rw [up_id, kt_id]; exact hD
  · have hd0 : d = 30 := (nI_eq (by omega) (by decide)).mp (show nI d = nI 30 from c_11)
    refine lv_aload_n hx hb d_M_open_14 rfl (lv_at hl 0 rfl) ?_
    refine lv_iconst (v := 1) hx hb d_M_open_15 (by decide) ?_
    refine va_calli (va_runV (As := [.int 1]) (rest := []) (C := RM) ⟨hx, hb, hml, hown, hts⟩ (m_M_fail l D k b 0 r (nI d) N F t KR K T 1 _) (cwV 1 hts (TB_g kl_M_48 ki_M_fail ks_M_fail kz_M (TB_c kc_M_fail)) rfl rfl rfl (by decide +kernel) ⟨Nat.le_of_ble_eq_true rfl, Nat.le_of_ble_eq_true rfl⟩) ⟨PW.bl, va_recv (q := (RM, TM, 9)) (ci := 2) (q0 := 0) hK hP rfl rfl, fun U hU hW => ⟨rfl, PW.go hK hP hD hS hA hE hU hW⟩⟩ rfl rfl hl.1 rfl (lv_room (Nat.le_of_ble_eq_true rfl)) d_M_open_16 ⟨Nat.zero_le _, Nat.zero_le _⟩) hS (fun q _ h => cut_F hD hS hA q h) (cut_F hD hS hA) (fun r9 uu t9 H1 locs1 ht hvm hpost hB hz hk hS => ?_)
    rw [ht] at hB
    have hP := hB
    have hD := hD.ad (wm_ad : (WM k b 1 r (nI d) N F (zb t) KR K (fun i => zb (T i))).map Prod.fst = _)
    generalize H1 = H at hP hS ⊢
    generalize locs1 = locs at hS ⊢
    subst hpost
    exact W.iret (v := 0) hx hb hr (fun t9 ht hW => ⟨⟨_, (1, d, KR, K, T), rfl, Or.inl ⟨by omega, rfl, rfl⟩, atP hP ht⟩, hS.F ht⟩) hS.2.2 d_M_open_19
