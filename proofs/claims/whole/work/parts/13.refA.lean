/-! the reference: words for its state; small methods -/
abbrev rM1 : Room := { frames := 1, cells := 0, slots := 0, locals := 40 }
abbrev rM : Room := { frames := 3, cells := 0, slots := 0, locals := 100 }
/-- truth as the machine keeps it -/
def zb (t : Nat → Bool) : Nat → Int32 := fun j => if t j then 1 else 0
theorem zb_up (t : Nat → Bool) (j : Nat) (q : Bool) {x : Int32} (hx : x = if q then 1 else 0) : upd (zb t) j (vp_nar .boolean x) = zb (va_up t j q) := by
  subst hx
  funext i
  by_cases h : i = j
  · subst h
    rw [pk_us]
    simp only [zb, va_up_self]
    cases q <;> rfl
  · rw [pk_un h]
    simp only [zb, va_up_ne _ _ h]
theorem zb_row (T : Nat → Nat → Bool) (i : Nat) (g : Nat → Bool) : va_up (fun x => zb (T x)) i (zb g) = fun x => zb (va_up T i g x) := by
  funext x
  by_cases h : x = i <;> simp [va_up, h]
theorem zb_c (t : Nat → Bool) (j : Nat) : zb t j = if t j then 1 else 0 := rfl
section ALDA
variable {p : Program} {l : Launch} {e : Env} {R : Room} {s : State} {m : MethodId} {args : Array Value} {below : List Frame} {meth : Method} {c : Code} {H : Heap} {locs : List Loc} {cells slots : Nat} {Q : State → Prop}
variable {cc : ByteArray} {pc : Nat} {ls : Array Slot} {rest : List Value} {D : va_G} {cl : List vw_C} {A : Nat → Prop} {a : Nat} {tys : List (ClassId × FieldType)} {ws : va_W} {H0 : Heap}
/-- a row out of an array of rows -/
theorem va_aldA {ty : FieldType} (hexec : p.tables.exec = Jvm.exec) (hb : c.code = cc) (hK : va_K D cl tys s) (hP : va_P D cl ws H) (q0 t0 : Nat) {cA : ClassId} {n : Nat} {f : Nat → Option Nat} (ha : ws[q0]? = some (a, .inl (cA, n, .inr (.inr (.inr (.inr f)))))) (ht : tys[t0]? = some (cA, .array ty)) {i : Int32} (hin : vp_in i n) (hdg : decode cc pc = .ok (.aaload, 1))
    (kk : W p l e R s m args below meth c H locs cells slots Q (F0 m (pc + 1) ls (va_rf (f i.toNatClampNeg) :: rest))) : W p l e R s m args below meth c H locs cells slots Q (F0 m pc ls (.int i :: .ref a :: rest)) := by
  have hlt : i.toNatClampNeg < n := Nat.not_le.mp fun q => hin (Or.inr q)
  exact W.aald (v := va_rf (f i.toNatClampNeg)) (ty := .array ty) hexec hb (hP q0 _ ha) ((hK.2 t0 _ ht).1 n (fun j => va_rf (f j))) rfl (fun q => by cases q) (by show ¬ (i < 0 ∨ (arrV _ _ _).slots.size ≤ _); rw [arrV_size]; exact hin) (by show (arrV _ _ _).slots[_]? = _; rw [arrV_read _ _ hlt]) rfl rfl hdg kk
end ALDA
theorem okP_iff {o p : Int32} (h1 : ¬ o < 0) (h2 : ¬ 3 < o) (h3 : ¬ p < 0) (h4 : p ≤ 63) : okP o p := by
  obtain ⟨u, hu, rfl⟩ := nI_of h1
  obtain ⟨v, hv, rfl⟩ := nI_of h3
  refine ⟨u, v, ?_, ?_, rfl, rfl⟩
  · rcases Nat.lt_or_ge u 4 with q | q
    · exact q
    · exact absurd (show nI 3 < nI u from nI_lt (by omega) hu) h2
  · rcases Nat.lt_or_ge v 64 with q | q
    · exact q
    · exact absurd (show nI v ≤ nI 63 from h4) (nI_ge (by omega) hv)
theorem okP_no5 {o p : Int32} (h : 3 < o) : ¬ okP o p := fun ⟨u, v, hu, hv, e1, e2⟩ => nI_nlt (show u ≤ 3 by omega) (by decide) (show nI 3 < nI u from e1 ▸ h)
theorem okP_no6 {o p : Int32} (h : ¬ p ≤ 63) : ¬ okP o p := fun ⟨u, v, hu, hv, e1, e2⟩ => h (by rw [e2]; exact (show nI v ≤ nI 63 from nI_le (by omega) (by decide)))
theorem mi_c (u v : Nat) : (64 : Int32) * nI u + nI v = nI (u * 64 + v) := by
  rw [show (64 : Int32) = nI 64 from rfl, pk_mul, nI_add, Nat.mul_comm]

set_option maxHeartbeats 4000000 in
set_option maxRecDepth 100000 in
theorem m_M_thrown (l : Launch) (D : va_G) (k : Nat → ClassId) (b : Nat → Nat) (f r d : Int32) (N F : Nat → Int64) (t : Nat → Bool) (KR : Nat → Int32) (K : Nat → Nat → Int64) (T : Nat → Nat → Bool) (sz : Nat) : Met l y_M_thrown (w_M_thrown :: TB) rM1 (va_Pc [.ref (b 0)] (PW D k (WM k b f r d N F (zb t) KR K (fun i => zb (T i))) sz)) (vp_Si (fun x => x = f)) 0 0 (fun _ => False) := by
  refine Met.ofW (cc := b_M_thrown) (maxL := 1) (ret := some .int) (by decide) rfl ?_
  intro p e s m args below meth c s₁ B hml hv
  obtain ⟨rfl, hsz, hP, hK, hD0, hE⟩ := hv
  have hx := B.exec
  have hb := B.bytes
  have hr := B.returns
  have hts0 := atoms_spec (ws := w_M_thrown :: TB) B.pre
  have hts := fun w (hw : w ∈ TB) => hts0 w (List.mem_cons_of_mem _ hw)
  have hown : s.vm.findClass RM = some m.cls := findClass_of_methodNamed B.named
  have hlocks := B.notSynchronized
  subst hsz
  have hD := hD0.self (sz := s.heap.size)
  generalize hAe : va_A (WM k b f r d N F (zb t) KR K (fun i => zb (T i))) s.heap.size = A at *
  have hA : ∀ q : Nat, s.heap.size ≤ q → A q := fun q h => by rw [← hAe]; exact Or.inr h
  have hS : va_S A s.heap s.heap [] := va_S.rf
  have hl := lv_entry ([.ref (b 0)]) (n := 1) (Nat.le_of_ble_eq_true rfl)
  rw [lg_entry_eq]
  generalize (lg_sl ([.ref (b 0)]) ++ List.replicate (1 - (lg_sl ([.ref (b 0)])).length) Slot.unset).toArray = ls at hl ⊢
  have hl : lv_has ls 1 [(0, .ref (b 0))] := hl
  refine lv_aload_n hx hb d_M_thrown_0 rfl (lv_at hl 0 rfl) ?_
  refine va_get (D := D) (ci := 2) (v := .int f) (C := RM) (T := TM) (N := 9) hx hb hts kin_M hown hK hP 0 rfl rfl 0 (by decide) (hts _ kf_M_34) (fun _ h9 => h9) rfl d_M_thrown_1 ?_
  exact W.iret (v := f) hx hb hr (fun t9 ht hW => ⟨_, rfl, rfl, ht⟩) (fun _ h => absurd h List.not_mem_nil) d_M_thrown_4
set_option maxHeartbeats 4000000 in
set_option maxRecDepth 100000 in
theorem m_M_fail (l : Launch) (D : va_G) (k : Nat → ClassId) (b : Nat → Nat) (f r d : Int32) (N F : Nat → Int64) (t : Nat → Bool) (KR : Nat → Int32) (K : Nat → Nat → Int64) (T : Nat → Nat → Bool) (z : Int32) (sz : Nat) : Met l y_M_fail (w_M_fail :: TB) rM1 (va_Pc [.ref (b 0), .int z] (PW D k (WM k b f r d N F (zb t) KR K (fun i => zb (T i))) sz)) (va_Qi (fun (x : Int32) (_ : Unit) => x = 0) (fun _ t9 => va_P D wCl (WM k b z r d N F (zb t) KR K (fun i => zb (T i))) t9.heap) (va_A (WM k b f r d N F (zb t) KR K (fun i => zb (T i))) sz)) 0 0 (va_A (WM k b f r d N F (zb t) KR K (fun i => zb (T i))) sz) := by
  refine Met.ofW (cc := b_M_fail) (maxL := 2) (ret := some .int) (by decide) rfl ?_
  intro p e s m args below meth c s₁ B hml hv
  obtain ⟨rfl, hsz, hP, hK, hD0, hE⟩ := hv
  have hx := B.exec
  have hb := B.bytes
  have hr := B.returns
  have hts0 := atoms_spec (ws := w_M_fail :: TB) B.pre
  have hts := fun w (hw : w ∈ TB) => hts0 w (List.mem_cons_of_mem _ hw)
  have hown : s.vm.findClass RM = some m.cls := findClass_of_methodNamed B.named
  have hlocks := B.notSynchronized
  subst hsz
  have hD := hD0.self (sz := s.heap.size)
  generalize hAe : va_A (WM k b f r d N F (zb t) KR K (fun i => zb (T i))) s.heap.size = A at *
  have hA : ∀ q : Nat, s.heap.size ≤ q → A q := fun q h => by rw [← hAe]; exact Or.inr h
  have hS : va_S A s.heap s.heap [] := va_S.rf
  have hl := lv_entry ([.ref (b 0), .int z]) (n := 2) (Nat.le_of_ble_eq_true rfl)
  rw [lg_entry_eq]
  generalize (lg_sl ([.ref (b 0), .int z]) ++ List.replicate (2 - (lg_sl ([.ref (b 0), .int z])).length) Slot.unset).toArray = ls at hl ⊢
  have hl : lv_has ls 2 [(0, .ref (b 0)), (1, .int z)] := hl
  refine lv_aload_n hx hb d_M_fail_0 rfl (lv_at hl 0 rfl) ?_
  refine lv_iload_n hx hb d_M_fail_1 rfl (lv_at hl 1 rfl) ?_
  refine va_put (D := D) (ci := 2) (v := .int z) (ty := .int) (C := RM) (T := TM) (N := 9) hx hb hts kin_M tM tyM nmM hown hK hP hD hS 0 rfl rfl 0 (by decide) (hts _ kf_M_34) (fun _ h9 => h9) rfl (by decide +kernel) rfl rfl (Nat.le_of_ble_eq_true rfl) d_M_fail_2 (fun H locs hP hD hS => ?_)
  have hP : va_P D wCl (WM k b z r d N F (zb t) KR K (fun i => zb (T i))) H := hP
  have hD : va_D A (WM k b z r d N F (zb t) KR K (fun i => zb (T i))) := hD
  refine lv_iconst (v := 0) hx hb d_M_fail_5 (by decide) ?_
  exact W.iret (v := 0) hx hb hr (fun t9 ht hW => ⟨⟨_, (), rfl, rfl, atP hP ht⟩, hS.F ht⟩) hS.2.2 d_M_fail_6
set_option maxHeartbeats 4000000 in
set_option maxRecDepth 100000 in
theorem m_M_out (l : Launch) (D : va_G) (k : Nat → ClassId) (b : Nat → Nat) (f r d : Int32) (N F : Nat → Int64) (t : Nat → Bool) (KR : Nat → Int32) (K : Nat → Nat → Int64) (T : Nat → Nat → Bool) (o1 p1 : Int32) (sz : Nat) : Met l y_M_out (w_M_out :: TB) rM1 (va_Pc [.ref (b 0), .int o1, .int p1] (PW D k (WM k b f r d N F (zb t) KR K (fun i => zb (T i))) sz)) (vp_Si (fun x => (okP o1 p1 ∧ x = 0) ∨ (¬ okP o1 p1 ∧ x = 1))) 0 0 (fun _ => False) := by
  refine Met.ofW (cc := b_M_out) (maxL := 3) (ret := some .boolean) (by decide) rfl ?_
  intro p e s m args below meth c s₁ B hml hv
  obtain ⟨rfl, hsz, hP, hK, hD0, hE⟩ := hv
  have hx := B.exec
  have hb := B.bytes
  have hr := B.returns
  have hts0 := atoms_spec (ws := w_M_out :: TB) B.pre
  have hts := fun w (hw : w ∈ TB) => hts0 w (List.mem_cons_of_mem _ hw)
  have hown : s.vm.findClass RM = some m.cls := findClass_of_methodNamed B.named
  have hlocks := B.notSynchronized
  subst hsz
  have hD := hD0.self (sz := s.heap.size)
  generalize hAe : va_A (WM k b f r d N F (zb t) KR K (fun i => zb (T i))) s.heap.size = A at *
  have hA : ∀ q : Nat, s.heap.size ≤ q → A q := fun q h => by rw [← hAe]; exact Or.inr h
  have hS : va_S A s.heap s.heap [] := va_S.rf
  have hl := lv_entry ([.ref (b 0), .int o1, .int p1]) (n := 3) (Nat.le_of_ble_eq_true rfl)
  rw [lg_entry_eq]
  generalize (lg_sl ([.ref (b 0), .int o1, .int p1]) ++ List.replicate (3 - (lg_sl ([.ref (b 0), .int o1, .int p1])).length) Slot.unset).toArray = ls at hl ⊢
  have hl : lv_has ls 3 [(0, .ref (b 0)), (1, .int o1), (2, .int p1)] := hl
  refine lv_iload_n hx hb d_M_out_0 rfl (lv_at hl 1 rfl) ?_
  refine lv_if_lt (tgt := 19) hx hb d_M_out_1 (by decide) (fun c_1 => ?_) (fun c_1 => ?_)
  · refine lv_iconst (v := 1) hx hb d_M_out_19 (by decide) ?_
    refine lv_goto (tgt := 24) hx hb d_M_out_20 (by decide) ?_
    exact W.zret (v := 1) hx hb hr rfl (fun t9 ht hW => ⟨_, rfl, Or.inr ⟨okP_no1 c_1, rfl⟩, ht⟩) (fun _ h => absurd h List.not_mem_nil) d_M_out_24
  · refine lv_iload_n hx hb d_M_out_4 rfl (lv_at hl 1 rfl) ?_
    refine lv_iconst (v := 3) hx hb d_M_out_5 (by decide) ?_
    refine lv_icmp_gt (tgt := 19) hx hb d_M_out_6 (by decide) (fun c_6 => ?_) (fun c_6 => ?_)
    · refine lv_iconst (v := 1) hx hb d_M_out_19 (by decide) ?_
      refine lv_goto (tgt := 24) hx hb d_M_out_20 (by decide) ?_
      exact W.zret (v := 1) hx hb hr rfl (fun t9 ht hW => ⟨_, rfl, Or.inr ⟨okP_no5 c_6, rfl⟩, ht⟩) (fun _ h => absurd h List.not_mem_nil) d_M_out_24
    · refine lv_iload_n hx hb d_M_out_9 rfl (lv_at hl 2 rfl) ?_
      refine lv_if_lt (tgt := 19) hx hb d_M_out_10 (by decide) (fun c_10 => ?_) (fun c_10 => ?_)
      · refine lv_iconst (v := 1) hx hb d_M_out_19 (by decide) ?_
        refine lv_goto (tgt := 24) hx hb d_M_out_20 (by decide) ?_
        exact W.zret (v := 1) hx hb hr rfl (fun t9 ht hW => ⟨_, rfl, Or.inr ⟨okP_no3 c_10, rfl⟩, ht⟩) (fun _ h => absurd h List.not_mem_nil) d_M_out_24
      · refine lv_iload_n hx hb d_M_out_13 rfl (lv_at hl 2 rfl) ?_
        refine lv_bipush (v := 63) hx hb d_M_out_14 (by decide) ?_
        refine lv_icmp_le (tgt := 23) hx hb d_M_out_16 (by decide) (fun c_16 => ?_) (fun c_16 => ?_)
        · refine lv_iconst (v := 0) hx hb d_M_out_23 (by decide) ?_
          exact W.zret (v := 0) hx hb hr rfl (fun t9 ht hW => ⟨_, rfl, Or.inl ⟨okP_iff c_1 c_6 c_10 c_16, rfl⟩, ht⟩) (fun _ h => absurd h List.not_mem_nil) d_M_out_24
        · refine lv_iconst (v := 1) hx hb d_M_out_19 (by decide) ?_
          refine lv_goto (tgt := 24) hx hb d_M_out_20 (by decide) ?_
          exact W.zret (v := 1) hx hb hr rfl (fun t9 ht hW => ⟨_, rfl, Or.inr ⟨okP_no6 c_16, rfl⟩, ht⟩) (fun _ h => absurd h List.not_mem_nil) d_M_out_24
set_option maxHeartbeats 4000000 in
set_option maxRecDepth 100000 in
theorem m_M_filled (l : Launch) (D : va_G) (k : Nat → ClassId) (b : Nat → Nat) (f r d : Int32) (N F : Nat → Int64) (t : Nat → Bool) (KR : Nat → Int32) (K : Nat → Nat → Int64) (T : Nat → Nat → Bool) (sz : Nat) : Met l y_M_filled (w_M_filled :: TB) rM1 (va_Pc [.ref (b 0)] (PW D k (WM k b f r d N F (zb t) KR K (fun i => zb (T i))) sz)) (vp_Si (fun x => x = nI (cnt N 256))) 0 0 (fun _ => False) := by
  refine Met.ofW (cc := b_M_filled) (maxL := 3) (ret := some .int) (by decide) rfl ?_
  intro p e s m args below meth c s₁ B hml hv
  obtain ⟨rfl, hsz, hP, hK, hD0, hE⟩ := hv
  have hx := B.exec
  have hb := B.bytes
  have hr := B.returns
  have hts0 := atoms_spec (ws := w_M_filled :: TB) B.pre
  have hts := fun w (hw : w ∈ TB) => hts0 w (List.mem_cons_of_mem _ hw)
  have hown : s.vm.findClass RM = some m.cls := findClass_of_methodNamed B.named
  have hlocks := B.notSynchronized
  subst hsz
  have hD := hD0.self (sz := s.heap.size)
  generalize hAe : va_A (WM k b f r d N F (zb t) KR K (fun i => zb (T i))) s.heap.size = A at *
  have hA : ∀ q : Nat, s.heap.size ≤ q → A q := fun q h => by rw [← hAe]; exact Or.inr h
  have hS : va_S A s.heap s.heap [] := va_S.rf
  have hl := lv_entry ([.ref (b 0)]) (n := 3) (Nat.le_of_ble_eq_true rfl)
  rw [lg_entry_eq]
  generalize (lg_sl ([.ref (b 0)]) ++ List.replicate (3 - (lg_sl ([.ref (b 0)])).length) Slot.unset).toArray = ls at hl ⊢
  have hl : lv_has ls 3 [(0, .ref (b 0))] := hl
  refine lv_iconst (v := 0) hx hb d_M_filled_0 (by decide) ?_
  refine lv_istore_n (lv' := [(1, .int 0), (0, .ref (b 0))]) hx hb d_M_filled_1 rfl hl (by decide) rfl (fun ls hl => ?_)
  refine lv_iconst (v := 0) hx hb d_M_filled_2 (by decide) ?_
  refine lv_istore_n (lv' := [(2, .int 0), (1, .int 0), (0, .ref (b 0))]) hx hb d_M_filled_3 rfl hl (by decide) rfl (fun ls hl => ?_)
  generalize hRR : (headSpec (w_M_filled :: TB) rM1).room = RR
  generalize hQQ : MQ below (vp_Si (fun x => x = nI (cnt N 256))) [.ref (b 0)].toArray s 0 0 (fun _ => False) = QQ
  have loop : ∀ (n j : Nat), j ≤ 256 → 257 ≤ j + n → ∀ (ls : Array Slot), lv_has ls 3 [(1, .int (nI (cnt N j))), (2, .int (nI j)), (0, .ref (b 0))] → W p l e RR s m [.ref (b 0)].toArray below meth c s.heap [] 0 0 QQ (F0 m 4 ls []) := by
    intro n
    induction n with
    | zero =>
      intro j h1 h2
      exact absurd h2 (by omega)
    | succ n ih =>
      intro j hj hjn ls hl
      refine lv_iload_n hx hb d_M_filled_4 rfl (lv_at hl 1 rfl) ?_
      refine lv_sipush (v := 256) hx hb d_M_filled_5 (by decide) ?_
      refine lv_icmp_ge (tgt := 36) hx hb d_M_filled_8 (by decide) (fun c_8 => ?_) (fun c_8 => ?_)
      · have hj : j = 256 := by
          rcases Nat.lt_or_ge j 256 with q | q
          · exact absurd c_8 (nI_ge q (by decide))
          · omega
        subst hj
        refine lv_iload_n hx hb d_M_filled_36 rfl (lv_at hl 0 rfl) ?_
        subst hQQ
        exact W.iret (v := nI (cnt N 256)) hx hb hr (fun t9 ht hW => ⟨_, rfl, rfl, ht⟩) (fun _ h => absurd h List.not_mem_nil) d_M_filled_37
      · have hlt : j < 256 := by
          rcases Nat.lt_or_ge j 256 with q | q
          · exact q
          · exact absurd (nI_le q (by omega)) c_8
        refine lv_iload_n hx hb d_M_filled_11 rfl (lv_at hl 0 rfl) ?_
        refine lv_aload_n hx hb d_M_filled_12 rfl (lv_at hl 2 rfl) ?_
        refine va_get (D := D) (ci := 2) (v := .ref (b 4)) (C := RM) (T := TM) (N := 9) hx hb hts kin_M hown hK hP 0 rfl rfl 4 (by decide) (hts _ kf_M_23) (fun _ h9 => h9) rfl d_M_filled_13 ?_
        refine lv_iload_n hx hb d_M_filled_16 rfl (lv_at hl 1 rfl) ?_
        refine va_lald hx hb hK hP 4 0 rfl rfl (vp_in_nI hlt (by decide)) d_M_filled_17 ?_
        rw [nI_clamp (show j < 2 ^ 31 by omega)]
        refine lv_lconst (v := 0) hx hb d_M_filled_18 (by decide) ?_
        refine W.lcmp hx hb d_M_filled_19 ?_
        refine lv_if_eq (tgt := 27) hx hb d_M_filled_20 (by decide) (fun c_20 => ?_) (fun c_20 => ?_)
        · have c_20 : N j = 0 := (lg_cmp_eq _ _).mp c_20
          refine lv_iconst (v := 0) hx hb d_M_filled_27 (by decide) ?_
          refine lv_iadd hx hb d_M_filled_28 ?_
          refine lv_istore_n (lv' := [(1, .int ((nI (cnt N j)) + (0))), (2, .int (nI j)), (0, .ref (b 0))]) hx hb d_M_filled_29 rfl hl (by decide) rfl (fun ls hl => ?_)
          refine lv_iinc (v := (nI j) + 1) (lv' := [(2, .int ((nI j) + 1)), (1, .int ((nI (cnt N j)) + (0))), (0, .ref (b 0))]) hx hb d_M_filled_30 hl (k := 1) rfl rfl (by decide) rfl (fun ls hl => ?_)
          refine lv_goto (tgt := 4) hx hb d_M_filled_33 (by decide) ?_
          refine ih (j + 1) hlt (by omega) ls ?_
          have e1 := show nI (cnt N j) + 0 = nI (cnt N (j + 1)) by simp only [cnt, if_pos c_20]; exact nI_add _ _
          rw [← e1, ← nI_1 j]
          exact lv_sub hl [1, 0, 2] rfl
        · have c_20 : ¬ N j = 0 := fun q => c_20 ((lg_cmp_eq _ _).mpr q)
          refine lv_iconst (v := 1) hx hb d_M_filled_23 (by decide) ?_
          refine lv_goto (tgt := 28) hx hb d_M_filled_24 (by decide) ?_
          refine lv_iadd hx hb d_M_filled_28 ?_
          refine lv_istore_n (lv' := [(1, .int ((nI (cnt N j)) + (1))), (2, .int (nI j)), (0, .ref (b 0))]) hx hb d_M_filled_29 rfl hl (by decide) rfl (fun ls hl => ?_)
          refine lv_iinc (v := (nI j) + 1) (lv' := [(2, .int ((nI j) + 1)), (1, .int ((nI (cnt N j)) + (1))), (0, .ref (b 0))]) hx hb d_M_filled_30 hl (k := 1) rfl rfl (by decide) rfl (fun ls hl => ?_)
          refine lv_goto (tgt := 4) hx hb d_M_filled_33 (by decide) ?_
          refine ih (j + 1) hlt (by omega) ls ?_
          have e1 := show nI (cnt N j) + 1 = nI (cnt N (j + 1)) by simp only [cnt, if_neg c_20]; exact nI_1 _
          rw [← e1, ← nI_1 j]
          exact lv_sub hl [1, 0, 2] rfl
  exact loop 257 0 (by omega) (by omega) ls (lv_sub hl [1, 0, 2] rfl)
