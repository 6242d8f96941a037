/-! the class, further methods -/
set_option maxHeartbeats 4000000 in
set_option maxRecDepth 100000 in
theorem m_X_touched (l : Launch) (hl0 : l.stackTraces = false) (D : va_G) (k : Nat → ClassId) (a : Nat → Nat) (d : Nat) (hd : d ≤ 30) (F : Nat → Int64) (V M : Nat → Nat → Int64) (R : Nat → Int32) (o1 p1 : Int32) (sz : Nat) : vx_Met l y_X_touched (w_X_touched :: TB) rX (va_Pc [.ref (a 0), .int o1, .int p1] (PW D k (WX k a (nI d) F V M R) sz)) (va_Qi (fun (r : Int32) (_ : Unit) => ∃ u v : Nat, u < 4 ∧ v < 64 ∧ o1 = nI u ∧ p1 = nI v ∧ r = (if tb (M d u) v then 1 else 0)) (fun _ t => va_P D wCl (WX k a (nI d) F V M R) t.heap) (va_A (WX k a (nI d) F V M R) sz)) (XQ D EIAE (¬ okP o1 p1) (WX k a (nI d) F V M R) (va_A (WX k a (nI d) F V M R) sz)) 1 6 (va_A (WX k a (nI d) F V M R) sz) := by
  refine vx_ofW (cc := b_X_touched) (maxL := 3) (ret := some .boolean) (by decide) rfl ?_
  intro p e s m args below meth c s₁ B hml htab hv
  obtain ⟨rfl, hsz, hP, hK, hD0, hE⟩ := hv
  have hx := B.exec
  have hb := B.bytes
  have hr := B.returns
  have hts0 := atoms_spec (ws := w_X_touched :: TB) B.pre
  have hts := fun w (hw : w ∈ TB) => hts0 w (List.mem_cons_of_mem _ hw)
  have hown : s.vm.findClass RX = some m.cls := findClass_of_methodNamed B.named
  have hlocks := B.notSynchronized
  subst hsz
  have hD := hD0.self (sz := s.heap.size)
  generalize hAe : va_A (WX k a (nI d) F V M R) s.heap.size = A at *
  have hA : ∀ q : Nat, s.heap.size ≤ q → A q := fun q h => by rw [← hAe]; exact Or.inr h
  have hS : va_S A s.heap s.heap [] := va_S.rf
  have hl := lv_entry ([.ref (a 0), .int o1, .int p1]) (n := 3) (Nat.le_of_ble_eq_true rfl)
  rw [lg_entry_eq]
  generalize (lg_sl ([.ref (a 0), .int o1, .int p1]) ++ List.replicate (3 - (lg_sl ([.ref (a 0), .int o1, .int p1])).length) Slot.unset).toArray = ls at hl ⊢
  have hl : lv_has ls 3 [(0, .ref (a 0)), (1, .int o1), (2, .int p1)] := hl
  have hd31 : d < 31 := by omega
  refine lv_iload_n hx hb d_X_touched_0 rfl (lv_at hl 1 rfl) ?_
  refine lv_iload_n hx hb d_X_touched_1 rfl (lv_at hl 2 rfl) ?_
  refine vx_callv (vx_runS (As := [.int o1, .int p1]) (rest := []) ⟨hx, hb, hml, hown, hts⟩ (m_X_checkPlace l hl0 D k (WX k a (nI d) F V M R) o1 p1 _) (va_cwS 2 hts (TB_g3 kl_X_56 kt_X_checkPlace kz_X (TB_c kc_X_checkPlace)) rfl rfl rfl (by decide +kernel) ⟨Nat.le_of_ble_eq_true rfl, Nat.le_of_ble_eq_true rfl⟩) ⟨PW.bl, fun U hU hW => ⟨rfl, PW.go hK hP hD hS hA hE hU hW⟩⟩ rfl rfl hl.1 rfl (lv_room (Nat.le_of_ble_eq_true rfl)) d_X_touched_2 ⟨Nat.le_of_ble_eq_true rfl, Nat.le_of_ble_eq_true rfl⟩) hS (fun q _ h => cut_F hD hS hA q h) (cut_F hD hS hA) (fun q _ h => cut_F hD hS hA q h) (fun E ce q9 u t H1 locs1 ht hvm px hBX hz hk hS hcell hv9 hcl => ?_) (fun u t H1 locs1 ht hvm hpost hB hz hk hS => ?_)
  · obtain ⟨rfl, hB⟩ := hBX
    have hB : va_P D wCl (WX k a (nI d) F V M R) H1 := by rw [← ht]; exact hB
    exact vx_out (fun x h => (htab x h).elim) hlocks hcell hv9 hcl (fun t ht hvm => ⟨(), px, ⟨rfl, atP hB ht⟩, hS.F ht⟩) hS.2.2 (Nat.le_refl _) (Nat.le_refl _)
  rw [ht] at hB
  have hP := hB
  generalize H1 = H at hP hS ⊢
  generalize locs1 = locs at hS ⊢
  obtain ⟨u1, v1, hu, hv, rfl, rfl⟩ := hpost
  refine lv_aload_n hx hb d_X_touched_5 rfl (lv_at hl 0 rfl) ?_
  refine va_get (D := D) (ci := 1) (v := .ref (a 2)) (C := RX) (T := TX) (N := 3) hx hb hts kin_X hown hK hP 0 rfl rfl 1 (by decide) (hts _ kf_X_15) (fun _ h9 => h9) rfl d_X_touched_6 ?_
  refine lv_aload_n hx hb d_X_touched_9 rfl (lv_at hl 0 rfl) ?_
  refine va_get (D := D) (ci := 1) (v := .int (nI d)) (C := RX) (T := TX) (N := 3) hx hb hts kin_X hown hK hP 0 rfl rfl 2 (by decide) (hts _ kf_X_19) (fun _ h9 => h9) rfl d_X_touched_10 ?_
  refine va_aldq hx hb hK hP 2 1 rfl rfl (vp_in_nI hd31 (by decide)) d_X_touched_13 ?_
  rw [show ((nI d) : Int32).toNatClampNeg = d from nI_clamp (by omega)]
  refine W.eq (g2 := F0 m 14 ls [.ref (a (3 + d))]) rfl ?_
  refine lv_iload_n hx hb d_X_touched_14 rfl (lv_at hl 1 rfl) ?_
  refine lv_iload_n hx hb d_X_touched_15 rfl (lv_at hl 2 rfl) ?_
  refine vp_callSi (va_runVN (As := [.int (nI u1), .int (nI v1)]) (rest := []) (C := RS) (host := RX) ⟨hx, hb, hml, hown, hts⟩ (m_S_isMarked l D k a (nI d) F V M R d hd31 u1 v1 hu hv _) ⟨va_cnB 2 hts (TB_c kc_S_isMarked) rfl rfl rfl (hE.1 _ nl_X_60) (hts _ kz_S) (by decide +kernel) ⟨Nat.le_of_ble_eq_true rfl, Nat.le_of_ble_eq_true rfl⟩, hts _ ki_S_isMarked, hts _ ks_S_isMarked⟩ ⟨PW.bl, va_recv (q := (RS, TS, 3)) hK hP rfl (wx_s hd31), fun U hU hW => ⟨rfl, PW.go hK hP hD hS hA hE hU hW⟩⟩ rfl rfl hl.1 rfl (lv_room (Nat.le_of_ble_eq_true rfl)) d_X_touched_16 ⟨Nat.le_of_ble_eq_true rfl, Nat.le_of_ble_eq_true rfl⟩).run (fun r1 hr1 => ?_)
  refine vx_ret ?_
  exact W.zret (v := r1) hx hb hr (by rw [hr1]; split <;> rfl) (fun t ht hW => ⟨⟨_, (), rfl, ⟨u1, v1, hu, hv, rfl, rfl, hr1⟩, atP hP ht⟩, hS.F ht⟩) hS.2.2 d_X_touched_19
set_option maxHeartbeats 4000000 in
set_option maxRecDepth 100000 in
theorem m_X_held (l : Launch) (hl0 : l.stackTraces = false) (D : va_G) (k : Nat → ClassId) (a : Nat → Nat) (d : Nat) (hd : d ≤ 30) (F : Nat → Int64) (V M : Nat → Nat → Int64) (R : Nat → Int32) (o1 p1 z : Int32) (sz : Nat) : vx_Met l y_X_held (w_X_held :: TB) rX (va_Pc [.ref (a 0), .int o1, .int p1, .int z] (PW D k (WX k a (nI d) F V M R) sz)) (va_Ql (fun (r : Int64) (_ : Unit) => ∃ u v : Nat, u < 4 ∧ v < 64 ∧ o1 = nI u ∧ p1 = nI v ∧ r = (if z = 0 then V d (u * 64 + v) else F (u * 64 + v))) (fun _ t => va_P D wCl (WX k a (nI d) F V M R) t.heap) (va_A (WX k a (nI d) F V M R) sz)) (XQ D EIAE (¬ okP o1 p1) (WX k a (nI d) F V M R) (va_A (WX k a (nI d) F V M R) sz)) 1 6 (va_A (WX k a (nI d) F V M R) sz) := by
  refine vx_ofW (cc := b_X_held) (maxL := 5) (ret := some .long) (by decide) rfl ?_
  intro p e s m args below meth c s₁ B hml htab hv
  obtain ⟨rfl, hsz, hP, hK, hD0, hE⟩ := hv
  have hx := B.exec
  have hb := B.bytes
  have hr := B.returns
  have hts0 := atoms_spec (ws := w_X_held :: TB) B.pre
  have hts := fun w (hw : w ∈ TB) => hts0 w (List.mem_cons_of_mem _ hw)
  have hown : s.vm.findClass RX = some m.cls := findClass_of_methodNamed B.named
  have hlocks := B.notSynchronized
  subst hsz
  have hD := hD0.self (sz := s.heap.size)
  generalize hAe : va_A (WX k a (nI d) F V M R) s.heap.size = A at *
  have hA : ∀ q : Nat, s.heap.size ≤ q → A q := fun q h => by rw [← hAe]; exact Or.inr h
  have hS : va_S A s.heap s.heap [] := va_S.rf
  have hl := lv_entry ([.ref (a 0), .int o1, .int p1, .int z]) (n := 5) (Nat.le_of_ble_eq_true rfl)
  rw [lg_entry_eq]
  generalize (lg_sl ([.ref (a 0), .int o1, .int p1, .int z]) ++ List.replicate (5 - (lg_sl ([.ref (a 0), .int o1, .int p1, .int z])).length) Slot.unset).toArray = ls at hl ⊢
  have hl : lv_has ls 5 [(0, .ref (a 0)), (1, .int o1), (2, .int p1), (3, .int z)] := hl
  have hd31 : d < 31 := by omega
  refine lv_iload_n hx hb d_X_held_0 rfl (lv_at hl 1 rfl) ?_
  refine lv_iload_n hx hb d_X_held_1 rfl (lv_at hl 2 rfl) ?_
  refine vx_callv (vx_runS (As := [.int o1, .int p1]) (rest := []) ⟨hx, hb, hml, hown, hts⟩ (m_X_checkPlace l hl0 D k (WX k a (nI d) F V M R) o1 p1 _) (va_cwS 2 hts (TB_g3 kl_X_56 kt_X_checkPlace kz_X (TB_c kc_X_checkPlace)) rfl rfl rfl (by decide +kernel) ⟨Nat.le_of_ble_eq_true rfl, Nat.le_of_ble_eq_true rfl⟩) ⟨PW.bl, fun U hU hW => ⟨rfl, PW.go hK hP hD hS hA hE hU hW⟩⟩ rfl rfl hl.1 rfl (lv_room (Nat.le_of_ble_eq_true rfl)) d_X_held_2 ⟨Nat.le_of_ble_eq_true rfl, Nat.le_of_ble_eq_true rfl⟩) hS (fun q _ h => cut_F hD hS hA q h) (cut_F hD hS hA) (fun q _ h => cut_F hD hS hA q h) (fun E ce q9 u t H1 locs1 ht hvm px hBX hz hk hS hcell hv9 hcl => ?_) (fun u t H1 locs1 ht hvm hpost hB hz hk hS => ?_)
  · obtain ⟨rfl, hB⟩ := hBX
    have hB : va_P D wCl (WX k a (nI d) F V M R) H1 := by rw [← ht]; exact hB
    exact vx_out (fun x h => (htab x h).elim) hlocks hcell hv9 hcl (fun t ht hvm => ⟨(), px, ⟨rfl, atP hB ht⟩, hS.F ht⟩) hS.2.2 (Nat.le_refl _) (Nat.le_refl _)
  rw [ht] at hB
  have hP := hB
  generalize H1 = H at hP hS ⊢
  generalize locs1 = locs at hS ⊢
  obtain ⟨u1, v1, hu, hv, rfl, rfl⟩ := hpost
  refine lv_iload_n hx hb d_X_held_5 rfl (lv_at hl 1 rfl) ?_
  refine lv_iload_n hx hb d_X_held_6 rfl (lv_at hl 2 rfl) ?_
  refine vp_callSi (W.runS (As := [.int (nI u1), .int (nI v1)]) (rest := []) ⟨hx, hb, hml, hown, hts⟩ (m_X_cellOf l (nI u1) (nI v1)) (va_cwS 2 hts (TB_g3 kl_X_67 kt_X_cellOf kz_X (TB_c kc_X_cellOf)) rfl rfl rfl (by decide +kernel) ⟨Nat.le_of_ble_eq_true rfl, Nat.le_of_ble_eq_true rfl⟩) preEq rfl rfl hl.1 rfl (lv_room (Nat.le_of_ble_eq_true rfl)) d_X_held_7 ⟨Nat.le_of_ble_eq_true rfl, Nat.le_of_ble_eq_true rfl⟩) (fun r1 hr1 => ?_)
  obtain rfl : r1 = nI (u1 * 64 + v1) := by rw [hr1, ← nI_add, ← pk_mul]; rfl
  have hc : u1 * 64 + v1 < 256 := by omega
  refine lv_istore (lv' := [(4, .int (nI (u1 * 64 + v1))), (0, .ref (a 0)), (1, .int (nI u1)), (2, .int (nI v1)), (3, .int z)]) hx hb d_X_held_10 hl (by decide) rfl (fun ls hl => ?_)
  refine lv_iload_n hx hb d_X_held_12 rfl (lv_at hl 4 rfl) ?_
  refine lv_if_eq (tgt := 26) hx hb d_X_held_13 (by decide) (fun c_13 => ?_) (fun c_13 => ?_)
  · refine lv_aload_n hx hb d_X_held_26 rfl (lv_at hl 1 rfl) ?_
    refine va_get (D := D) (ci := 1) (v := .ref (a 2)) (C := RX) (T := TX) (N := 3) hx hb hts kin_X hown hK hP 0 rfl rfl 1 (by decide) (hts _ kf_X_15) (fun _ h9 => h9) rfl d_X_held_27 ?_
    refine lv_aload_n hx hb d_X_held_30 rfl (lv_at hl 1 rfl) ?_
    refine va_get (D := D) (ci := 1) (v := .int (nI d)) (C := RX) (T := TX) (N := 3) hx hb hts kin_X hown hK hP 0 rfl rfl 2 (by decide) (hts _ kf_X_19) (fun _ h9 => h9) rfl d_X_held_31 ?_
    refine va_aldq hx hb hK hP 2 1 rfl rfl (vp_in_nI hd31 (by decide)) d_X_held_34 ?_
    rw [show ((nI d) : Int32).toNatClampNeg = d from nI_clamp (by omega)]
    refine W.eq (g2 := F0 m 35 ls [.ref (a (3 + d))]) rfl ?_
    refine va_getN (D := D) (host := RX) (ci := 0) (v := .ref (a (34 + d))) (C := RS) (T := TS) (N := 3) hx hb hts kin_S hown hK hP (d + 3) (wx_s hd31) rfl 0 (by decide) (va_Nw.use rfl (hE.1 _ nf_X_31)) (fun _ h9 => h9) rfl d_X_held_35 ?_
    refine lv_iload hx hb d_X_held_38 (lv_at hl 0 rfl) ?_
    refine va_lald hx hb hK hP (d + 34) 0 (wx_v hd31) rfl (vp_in_nI hc (by decide)) d_X_held_40 ?_
    rw [nI_clamp (show u1 * 64 + v1 < 2 ^ 31 by omega)]
    refine vx_ret ?_
    exact W.lret (v := V d (u1 * 64 + v1)) hx hb hr (fun t ht hW => ⟨⟨_, (), rfl, ⟨u1, v1, hu, hv, rfl, rfl, (if_pos c_13).symm⟩, atP hP ht⟩, hS.F ht⟩) hS.2.2 d_X_held_41
  · refine lv_aload_n hx hb d_X_held_16 rfl (lv_at hl 1 rfl) ?_
    refine va_get (D := D) (ci := 1) (v := .ref (a 1)) (C := RX) (T := TX) (N := 3) hx hb hts kin_X hown hK hP 0 rfl rfl 0 (by decide) (hts _ kf_X_9) (fun _ h9 => h9) rfl d_X_held_17 ?_
    refine lv_iload hx hb d_X_held_20 (lv_at hl 0 rfl) ?_
    refine va_lald hx hb hK hP 1 0 rfl rfl (vp_in_nI hc (by decide)) d_X_held_22 ?_
    rw [nI_clamp (show u1 * 64 + v1 < 2 ^ 31 by omega)]
    refine lv_goto (tgt := 41) hx hb d_X_held_23 (by decide) ?_
    refine vx_ret ?_
    exact W.lret (v := F (u1 * 64 + v1)) hx hb hr (fun t ht hW => ⟨⟨_, (), rfl, ⟨u1, v1, hu, hv, rfl, rfl, (if_neg c_13).symm⟩, atP hP ht⟩, hS.F ht⟩) hS.2.2 d_X_held_41
set_option maxHeartbeats 4000000 in
set_option maxRecDepth 100000 in
theorem m_X_count (l : Launch) (hl0 : l.stackTraces = false) (D : va_G) (k : Nat → ClassId) (a : Nat → Nat) (d : Nat) (hd : d ≤ 30) (F : Nat → Int64) (V M : Nat → Nat → Int64) (R : Nat → Int32) (z : Int32) (sz : Nat) : vx_Met l y_X_count (w_X_count :: TB) rX (va_Pc [.ref (a 0), .int z] (PW D k (WX k a (nI d) F V M R) sz)) (va_Qi (fun (r : Int32) (_ : Unit) => ∃ q : Nat, q < 4 ∧ z = nI q ∧ (q = 0 → r = R d) ∧ (q = 1 → r = nI (bsum (M d) 4)) ∧ (q = 2 → r = nI d) ∧ (q = 3 → r = nI (cnt (V d) 256))) (fun _ t => va_P D wCl (WX k a (nI d) F V M R) t.heap) (va_A (WX k a (nI d) F V M R) sz)) (XQ D EIAE (¬ ∃ q : Nat, q < 4 ∧ z = nI q) (WX k a (nI d) F V M R) (va_A (WX k a (nI d) F V M R) sz)) 1 6 (va_A (WX k a (nI d) F V M R) sz) := by
  refine vx_ofW (cc := b_X_count) (maxL := 3) (ret := some .int) (by decide) rfl ?_
  intro p e s m args below meth c s₁ B hml htab hv
  obtain ⟨rfl, hsz, hP, hK, hD0, hE⟩ := hv
  have hx := B.exec
  have hb := B.bytes
  have hr := B.returns
  have hts0 := atoms_spec (ws := w_X_count :: TB) B.pre
  have hts := fun w (hw : w ∈ TB) => hts0 w (List.mem_cons_of_mem _ hw)
  have hown : s.vm.findClass RX = some m.cls := findClass_of_methodNamed B.named
  have hlocks := B.notSynchronized
  subst hsz
  have hD := hD0.self (sz := s.heap.size)
  generalize hAe : va_A (WX k a (nI d) F V M R) s.heap.size = A at *
  have hA : ∀ q : Nat, s.heap.size ≤ q → A q := fun q h => by rw [← hAe]; exact Or.inr h
  have hS : va_S A s.heap s.heap [] := va_S.rf
  have hl := lv_entry ([.ref (a 0), .int z]) (n := 3) (Nat.le_of_ble_eq_true rfl)
  rw [lg_entry_eq]
  generalize (lg_sl ([.ref (a 0), .int z]) ++ List.replicate (3 - (lg_sl ([.ref (a 0), .int z])).length) Slot.unset).toArray = ls at hl ⊢
  have hl : lv_has ls 3 [(0, .ref (a 0)), (1, .int z)] := hl
  have hd31 : d < 31 := by omega
  refine lv_aload_n hx hb d_X_count_0 rfl (lv_at hl 0 rfl) ?_
  refine va_get (D := D) (ci := 1) (v := .ref (a 2)) (C := RX) (T := TX) (N := 3) hx hb hts kin_X hown hK hP 0 rfl rfl 1 (by decide) (hts _ kf_X_15) (fun _ h9 => h9) rfl d_X_count_1 ?_
  refine lv_aload_n hx hb d_X_count_4 rfl (lv_at hl 0 rfl) ?_
  refine va_get (D := D) (ci := 1) (v := .int (nI d)) (C := RX) (T := TX) (N := 3) hx hb hts kin_X hown hK hP 0 rfl rfl 2 (by decide) (hts _ kf_X_19) (fun _ h9 => h9) rfl d_X_count_5 ?_
  refine va_aldq hx hb hK hP 2 1 rfl rfl (vp_in_nI hd31 (by decide)) d_X_count_8 ?_
  rw [show ((nI d) : Int32).toNatClampNeg = d from nI_clamp (by omega)]
  refine W.eq (g2 := F0 m 9 ls [.ref (a (3 + d))]) rfl ?_
  refine lv_astore_n (lv' := [(2, .ref (a (3 + d))), (0, .ref (a 0)), (1, .int z)]) hx hb d_X_count_9 rfl hl (by decide) rfl (fun ls hl => ?_)
  refine lv_iload_n hx hb d_X_count_10 rfl (lv_at hl 2 rfl) ?_
  rcases pk_ix z (n := 4) (by decide) with hz | hz | ⟨q, hq, rfl⟩
  · refine lv_tableOut (tgt := 60) hx hb d_X_count_11 (Or.inl (by have := Int32.lt_iff_toInt_lt.mp hz; exact this)) (by decide) ?_
    obtain ⟨sa, hsa⟩ := hE.2.2.2.2.1
    exact thr hx hb hl0 hts hown hE hS (hl.1.trans hml.symm) htab hlocks (by decide +kernel) kk_X_86 kz_IllegalArgumentException kx_IAE kg_IAE hsa d_X_count_60 d_X_count_63 d_X_count_64 d_X_count_66 d_X_count_69 (Nat.le_of_ble_eq_true rfl) (Nat.le_of_ble_eq_true rfl) (Nat.le_of_ble_eq_true rfl) (Nat.le_of_ble_eq_true rfl) (Nat.le_of_ble_eq_true rfl) (Nat.le_of_ble_eq_true rfl) (fun t hv9 hF hq => ⟨(), fun ⟨q, hq, e⟩ => nI_pos (show q < 2 ^ 31 by omega) (e ▸ hz), ⟨rfl, kept_P hP hq⟩, hF⟩)
  · refine lv_tableOut (tgt := 60) hx hb d_X_count_11 (Or.inr (by have := Int32.le_iff_toInt_le.mp hz; rw [nI_toInt (by decide)] at this; omega)) (by decide) ?_
    obtain ⟨sa, hsa⟩ := hE.2.2.2.2.1
    exact thr hx hb hl0 hts hown hE hS (hl.1.trans hml.symm) htab hlocks (by decide +kernel) kk_X_86 kz_IllegalArgumentException kx_IAE kg_IAE hsa d_X_count_60 d_X_count_63 d_X_count_64 d_X_count_66 d_X_count_69 (Nat.le_of_ble_eq_true rfl) (Nat.le_of_ble_eq_true rfl) (Nat.le_of_ble_eq_true rfl) (Nat.le_of_ble_eq_true rfl) (Nat.le_of_ble_eq_true rfl) (Nat.le_of_ble_eq_true rfl) (fun t hv9 hF hq => ⟨(), fun ⟨q, hq, e⟩ => nI_ge hq (by decide) (e ▸ hz), ⟨rfl, kept_P hP hq⟩, hF⟩)
  · rcases (show q = 0 ∨ q = 1 ∨ q = 2 ∨ q = 3 by omega) with rfl | rfl | rfl | rfl
    · refine lv_tableIn (tgt := 40) hx hb d_X_count_11 (by decide) (by decide) rfl (by decide) ?_
      refine lv_aload_n hx hb d_X_count_40 rfl (lv_at hl 0 rfl) ?_
      refine va_getN (D := D) (host := RX) (ci := 0) (v := .int (R d)) (C := RS) (T := TS) (N := 3) hx hb hts kin_S hown hK hP (d + 3) (wx_s hd31) rfl 2 (by decide) (va_Nw.use rfl (hE.1 _ nf_X_77)) (fun _ h9 => h9) rfl d_X_count_41 ?_
      refine W.widen (k := 1) (n := 6) (by omega) (by omega) ?_
      refine vx_ret ?_
      exact W.iret (v := R d) hx hb hr (fun t ht hW => ⟨⟨_, (), rfl, ⟨0, by decide, rfl, fun _ => rfl, fun h => absurd h (by decide), fun h => absurd h (by decide), fun h => absurd h (by decide)⟩, atP hP ht⟩, hS.F ht⟩) hS.2.2 d_X_count_44
    · refine lv_tableIn (tgt := 45) hx hb d_X_count_11 (by decide) (by decide) rfl (by decide) ?_
      refine lv_aload_n hx hb d_X_count_45 rfl (lv_at hl 0 rfl) ?_
      refine vp_callSi (va_runVN (As := []) (rest := []) (C := RS) (host := RX) ⟨hx, hb, hml, hown, hts⟩ (m_S_markedPlaces l D k a (nI d) F V M R d hd31 _) ⟨va_cnB 0 hts (TB_c kc_S_markedPlaces) rfl rfl rfl (hE.1 _ nl_X_83) (hts _ kz_S) (by decide +kernel) ⟨Nat.le_of_ble_eq_true rfl, Nat.le_of_ble_eq_true rfl⟩, hts _ ki_S_markedPlaces, hts _ ks_S_markedPlaces⟩ ⟨PW.bl, va_recv (q := (RS, TS, 3)) hK hP rfl (wx_s hd31), fun U hU hW => ⟨rfl, PW.go hK hP hD hS hA hE hU hW⟩⟩ rfl rfl hl.1 rfl (lv_room (Nat.le_of_ble_eq_true rfl)) d_X_count_46 ⟨Nat.le_of_ble_eq_true rfl, Nat.le_of_ble_eq_true rfl⟩).run (fun r1 hr1 => ?_)
      refine W.widen (k := 1) (n := 6) (by omega) (by omega) ?_
      refine vx_ret ?_
      exact W.iret (v := r1) hx hb hr (fun t ht hW => ⟨⟨_, (), rfl, ⟨1, by decide, rfl, fun h => absurd h (by decide), fun _ => hr1, fun h => absurd h (by decide), fun h => absurd h (by decide)⟩, atP hP ht⟩, hS.F ht⟩) hS.2.2 d_X_count_49
    · refine lv_tableIn (tgt := 50) hx hb d_X_count_11 (by decide) (by decide) rfl (by decide) ?_
      refine lv_aload_n hx hb d_X_count_50 rfl (lv_at hl 1 rfl) ?_
      refine va_get (D := D) (ci := 1) (v := .int (nI d)) (C := RX) (T := TX) (N := 3) hx hb hts kin_X hown hK hP 0 rfl rfl 2 (by decide) (hts _ kf_X_19) (fun _ h9 => h9) rfl d_X_count_51 ?_
      refine W.widen (k := 1) (n := 6) (by omega) (by omega) ?_
      refine vx_ret ?_
      exact W.iret (v := nI d) hx hb hr (fun t ht hW => ⟨⟨_, (), rfl, ⟨2, by decide, rfl, fun h => absurd h (by decide), fun h => absurd h (by decide), fun _ => rfl, fun h => absurd h (by decide)⟩, atP hP ht⟩, hS.F ht⟩) hS.2.2 d_X_count_54
    · refine lv_tableIn (tgt := 55) hx hb d_X_count_11 (by decide) (by decide) rfl (by decide) ?_
      refine lv_aload_n hx hb d_X_count_55 rfl (lv_at hl 0 rfl) ?_
      refine vp_callSi (va_runVN (As := []) (rest := []) (C := RS) (host := RX) ⟨hx, hb, hml, hown, hts⟩ (m_S_filledPlaces l D k a (nI d) F V M R d hd31 _) ⟨va_cnB 0 hts (TB_c kc_S_filledPlaces) rfl rfl rfl (hE.1 _ nl_X_40) (hts _ kz_S) (by decide +kernel) ⟨Nat.le_of_ble_eq_true rfl, Nat.le_of_ble_eq_true rfl⟩, hts _ ki_S_filledPlaces, hts _ ks_S_filledPlaces⟩ ⟨PW.bl, va_recv (q := (RS, TS, 3)) hK hP rfl (wx_s hd31), fun U hU hW => ⟨rfl, PW.go hK hP hD hS hA hE hU hW⟩⟩ rfl rfl hl.1 rfl (lv_room (Nat.le_of_ble_eq_true rfl)) d_X_count_56 ⟨Nat.le_of_ble_eq_true rfl, Nat.le_of_ble_eq_true rfl⟩).run (fun r1 hr1 => ?_)
      refine W.widen (k := 1) (n := 6) (by omega) (by omega) ?_
      refine vx_ret ?_
      exact W.iret (v := r1) hx hb hr (fun t ht hW => ⟨⟨_, (), rfl, ⟨3, by decide, rfl, fun h => absurd h (by decide), fun h => absurd h (by decide), fun h => absurd h (by decide), fun _ => hr1⟩, atP hP ht⟩, hS.F ht⟩) hS.2.2 d_X_count_59
set_option maxHeartbeats 4000000 in
set_option maxRecDepth 100000 in
theorem m_X_open (l : Launch) (hl0 : l.stackTraces = false) (D : va_G) (k : Nat → ClassId) (a : Nat → Nat) (d : Nat) (hd : d ≤ 30) (F : Nat → Int64) (V M : Nat → Nat → Int64) (R : Nat → Int32) (sz : Nat) : vx_Met l y_X_open (w_X_open :: TB) rX (va_Pc [.ref (a 0)] (PW D k (WX k a (nI d) F V M R) sz)) (va_Qi (fun (r : Int32) (u : (Nat → Nat → Int64) × (Nat → Nat → Int64) × (Nat → Int32)) => d < 30 ∧ r = nI (d + 1) ∧ u.1 = va_up V (d + 1) (va_cpy (V d) (V (d + 1)) 0 0 256) ∧ u.2.1 = va_up M (d + 1) (va_cpy (M d) (M (d + 1)) 0 0 4) ∧ u.2.2 = va_up R (d + 1) (R d)) (fun u t => va_P D wCl (WX k a (nI (d + 1)) F u.1 u.2.1 u.2.2) t.heap) (va_A (WX k a (nI d) F V M R) sz)) (XQ D EIOOB (¬ d < 30) (WX k a (nI d) F V M R) (va_A (WX k a (nI d) F V M R) sz)) 1 6 (va_A (WX k a (nI d) F V M R) sz) := by
  refine vx_ofW (cc := b_X_open) (maxL := 1) (ret := some .int) (by decide) rfl ?_
  intro p e s m args below meth c s₁ B hml htab hv
  obtain ⟨rfl, hsz, hP, hK, hD0, hE⟩ := hv
  have hx := B.exec
  have hb := B.bytes
  have hr := B.returns
  have hts0 := atoms_spec (ws := w_X_open :: TB) B.pre
  have hts := fun w (hw : w ∈ TB) => hts0 w (List.mem_cons_of_mem _ hw)
  have hown : s.vm.findClass RX = some m.cls := findClass_of_methodNamed B.named
  have hlocks := B.notSynchronized
  subst hsz
  have hD := hD0.self (sz := s.heap.size)
  generalize hAe : va_A (WX k a (nI d) F V M R) s.heap.size = A at *
  have hA : ∀ q : Nat, s.heap.size ≤ q → A q := fun q h => by rw [← hAe]; exact Or.inr h
  have hS : va_S A s.heap s.heap [] := va_S.rf
  have hl := lv_entry ([.ref (a 0)]) (n := 1) (Nat.le_of_ble_eq_true rfl)
  rw [lg_entry_eq]
  generalize (lg_sl ([.ref (a 0)]) ++ List.replicate (1 - (lg_sl ([.ref (a 0)])).length) Slot.unset).toArray = ls at hl ⊢
  have hl : lv_has ls 1 [(0, .ref (a 0))] := hl
  have hd31 : d < 31 := by omega
  refine lv_aload_n hx hb d_X_open_0 rfl (lv_at hl 0 rfl) ?_
  refine va_get (D := D) (ci := 1) (v := .int (nI d)) (C := RX) (T := TX) (N := 3) hx hb hts kin_X hown hK hP 0 rfl rfl 2 (by decide) (hts _ kf_X_19) (fun _ h9 => h9) rfl d_X_open_1 ?_
  refine lv_bipush (v := 30) hx hb d_X_open_4 (by decide) ?_
  refine lv_icmp_lt (tgt := 19) hx hb d_X_open_6 (by decide) (fun c_6 => ?_) (fun c_6 => ?_)
  · have hd30 : d < 30 := by
      rcases Nat.lt_or_ge d 30 with q | q
      · exact q
      · exact absurd c_6 (nI_nlt q (by omega))
    have hd1 : d + 1 < 31 := by omega
    refine lv_aload_n hx hb d_X_open_19 rfl (lv_at hl 0 rfl) ?_
    refine va_get (D := D) (ci := 1) (v := .ref (a 2)) (C := RX) (T := TX) (N := 3) hx hb hts kin_X hown hK hP 0 rfl rfl 1 (by decide) (hts _ kf_X_15) (fun _ h9 => h9) rfl d_X_open_20 ?_
    refine lv_aload_n hx hb d_X_open_23 rfl (lv_at hl 0 rfl) ?_
    refine va_get (D := D) (ci := 1) (v := .int (nI d)) (C := RX) (T := TX) (N := 3) hx hb hts kin_X hown hK hP 0 rfl rfl 2 (by decide) (hts _ kf_X_19) (fun _ h9 => h9) rfl d_X_open_24 ?_
    refine lv_iconst (v := 1) hx hb d_X_open_27 (by decide) ?_
    refine lv_iadd hx hb d_X_open_28 ?_
    refine va_aldq hx hb hK hP 2 1 rfl rfl (by rw [nI_1]; exact vp_in_nI hd1 (by decide)) d_X_open_29 ?_
    rw [show (((nI d) + (1)) : Int32).toNatClampNeg = (d + 1) from by rw [nI_1]; exact nI_clamp (by omega)]
    refine W.eq (g2 := F0 m 30 ls [.ref (a (3 + (d + 1)))]) rfl ?_
    refine lv_aload_n hx hb d_X_open_30 rfl (lv_at hl 0 rfl) ?_
    refine va_get (D := D) (ci := 1) (v := .ref (a 2)) (C := RX) (T := TX) (N := 3) hx hb hts kin_X hown hK hP 0 rfl rfl 1 (by decide) (hts _ kf_X_15) (fun _ h9 => h9) rfl d_X_open_31 ?_
    refine lv_aload_n hx hb d_X_open_34 rfl (lv_at hl 0 rfl) ?_
    refine va_get (D := D) (ci := 1) (v := .int (nI d)) (C := RX) (T := TX) (N := 3) hx hb hts kin_X hown hK hP 0 rfl rfl 2 (by decide) (hts _ kf_X_19) (fun _ h9 => h9) rfl d_X_open_35 ?_
    refine va_aldq hx hb hK hP 2 1 rfl rfl (vp_in_nI hd31 (by decide)) d_X_open_38 ?_
    rw [show ((nI d) : Int32).toNatClampNeg = d from nI_clamp (by omega)]
    refine W.eq (g2 := F0 m 39 ls [.ref (a (3 + d)), .ref (a (3 + (d + 1)))]) rfl ?_
    refine va_callv (va_runVN (As := [.ref (a (3 + d))]) (rest := []) (C := RS) (host := RX) ⟨hx, hb, hml, hown, hts⟩ (m_S_copyFrom l D k a (nI d) F V M R ((d + 1)) hd1 d hd31 _) ⟨va_cnB 1 hts (TB_c kc_S_copyFrom) rfl rfl rfl (hE.1 _ nl_X_24) (hts _ kz_S) (by decide +kernel) ⟨Nat.le_of_ble_eq_true rfl, Nat.le_of_ble_eq_true rfl⟩, hts _ ki_S_copyFrom, hts _ ks_S_copyFrom⟩ ⟨PW.bl, va_recv (q := (RS, TS, 3)) hK hP rfl (wx_s hd1), fun U hU hW => ⟨rfl, PW.go hK hP hD hS hA hE hU hW⟩⟩ rfl rfl hl.1 rfl (lv_room (Nat.le_of_ble_eq_true rfl)) d_X_open_39 ⟨Nat.le_of_ble_eq_true rfl, Nat.le_of_ble_eq_true rfl⟩) hS (fun q _ h => cut_F hD hS hA q h) (cut_F hD hS hA) (fun uu t H1 locs1 ht hvm hpost hB hz hk hS => ?_)
    rw [ht] at hB
    obtain ⟨V2, M2, R2⟩ := uu
    obtain ⟨e1, e2, e3⟩ := hpost
    dsimp only at e1 e2 e3 hB
    subst e1 e2 e3
    have hP := hB
    have hD := hD.ad (wx_ad : (WX k a (nI d) F (va_up V ((d + 1)) (va_cpy (V d) (V ((d + 1))) 0 0 256)) (va_up M ((d + 1)) (va_cpy (M d) (M ((d + 1))) 0 0 4)) (va_up R ((d + 1)) (R d))).map Prod.fst = _)
    generalize H1 = H at hP hS ⊢
    generalize locs1 = locs at hS ⊢
    refine lv_aload_n hx hb d_X_open_42 rfl (lv_at hl 0 rfl) ?_
    refine lv_dup hx hb d_X_open_43 rfl ?_
    refine va_get (D := D) (ci := 1) (v := .int (nI d)) (C := RX) (T := TX) (N := 3) hx hb hts kin_X hown hK hP 0 rfl rfl 2 (by decide) (hts _ kf_X_19) (fun _ h9 => h9) rfl d_X_open_44 ?_
    refine lv_iconst (v := 1) hx hb d_X_open_47 (by decide) ?_
    refine lv_iadd hx hb d_X_open_48 ?_
    rw [nI_1 d]
    refine va_put (D := D) (ci := 1) (v := .int (nI (d + 1))) (ty := .int) (C := RX) (T := TX) (N := 3) hx hb hts kin_X tX tyX nmX hown hK hP hD hS 0 rfl rfl 2 (by decide) (hts _ kf_X_19) (fun _ h9 => h9) rfl (by decide +kernel) rfl rfl (Nat.le_of_ble_eq_true rfl) d_X_open_49 (fun H locs hP hD hS => ?_)
    have hP : va_P D wCl (WX k a (nI (d + 1)) F (va_up V ((d + 1)) (va_cpy (V d) (V ((d + 1))) 0 0 256)) (va_up M ((d + 1)) (va_cpy (M d) (M ((d + 1))) 0 0 4)) (va_up R ((d + 1)) (R d))) H := hP
    have hD : va_D A (WX k a (nI (d + 1)) F (va_up V ((d + 1)) (va_cpy (V d) (V ((d + 1))) 0 0 256)) (va_up M ((d + 1)) (va_cpy (M d) (M ((d + 1))) 0 0 4)) (va_up R ((d + 1)) (R d))) := hD
    refine lv_aload_n hx hb d_X_open_52 rfl (lv_at hl 0 rfl) ?_
    refine va_get (D := D) (ci := 1) (v := .int (nI (d + 1))) (C := RX) (T := TX) (N := 3) hx hb hts kin_X hown hK hP 0 rfl rfl 2 (by decide) (hts _ kf_X_19) (fun _ h9 => h9) rfl d_X_open_53 ?_
    refine W.widen (k := 1) (n := 6) (by omega) (by omega) ?_
    refine vx_ret ?_
    exact W.iret (v := nI (d + 1)) hx hb hr (fun t ht hW => ⟨⟨_, (va_up V (d + 1) (va_cpy (V d) (V (d + 1)) 0 0 256), va_up M (d + 1) (va_cpy (M d) (M (d + 1)) 0 0 4), va_up R (d + 1) (R d)), rfl, ⟨hd30, rfl, rfl, rfl, rfl⟩, atP hP ht⟩, hS.F ht⟩) hS.2.2 d_X_open_56
  · obtain ⟨sa, hsa⟩ := hE.2.1
    exact thr hx hb hl0 hts hown hE hS (hl.1.trans hml.symm) htab hlocks (by decide +kernel) kk_X_44 kz_IndexOutOfBoundsException kx_IOOB kg_IOOB hsa d_X_open_9 d_X_open_12 d_X_open_13 d_X_open_15 d_X_open_18 (Nat.le_of_ble_eq_true rfl) (Nat.le_of_ble_eq_true rfl) (Nat.le_of_ble_eq_true rfl) (Nat.le_of_ble_eq_true rfl) (Nat.le_of_ble_eq_true rfl) (Nat.le_of_ble_eq_true rfl) (fun t hv9 hF hq => ⟨(), fun q => c_6 (show nI d < nI 30 from nI_lt q (by decide)), ⟨rfl, kept_P hP hq⟩, hF⟩)
set_option maxHeartbeats 4000000 in
set_option maxRecDepth 100000 in
theorem m_X_close (l : Launch) (hl0 : l.stackTraces = false) (D : va_G) (k : Nat → ClassId) (a : Nat → Nat) (d : Nat) (hd : d ≤ 30) (F : Nat → Int64) (V M : Nat → Nat → Int64) (R : Nat → Int32) (z : Int32) (sz : Nat) : vx_Met l y_X_close (w_X_close :: TB) rX (va_Pc [.ref (a 0), .int z] (PW D k (WX k a (nI d) F V M R) sz)) (va_Qi (fun (r : Int32) (u : Nat × (Nat → Nat → Int64) × (Nat → Nat → Int64) × (Nat → Int32)) => d = u.1 + 1 ∧ r = nI u.1 ∧ (z = 0 → u.2 = (V, M, R)) ∧ (¬ z = 0 → u.2 = (va_up V u.1 (va_cpy (V (u.1 + 1)) (V u.1) 0 0 256), va_up M u.1 (va_cpy (M (u.1 + 1)) (M u.1) 0 0 4), va_up R u.1 (R (u.1 + 1))))) (fun u t => va_P D wCl (WX k a (nI u.1) F u.2.1 u.2.2.1 u.2.2.2) t.heap) (va_A (WX k a (nI d) F V M R) sz)) (XQ D EISE (d = 0) (WX k a (nI d) F V M R) (va_A (WX k a (nI d) F V M R) sz)) 1 6 (va_A (WX k a (nI d) F V M R) sz) := by
  refine vx_ofW (cc := b_X_close) (maxL := 2) (ret := some .int) (by decide) rfl ?_
  intro p e s m args below meth c s₁ B hml htab hv
  obtain ⟨rfl, hsz, hP, hK, hD0, hE⟩ := hv
  have hx := B.exec
  have hb := B.bytes
  have hr := B.returns
  have hts0 := atoms_spec (ws := w_X_close :: TB) B.pre
  have hts := fun w (hw : w ∈ TB) => hts0 w (List.mem_cons_of_mem _ hw)
  have hown : s.vm.findClass RX = some m.cls := findClass_of_methodNamed B.named
  have hlocks := B.notSynchronized
  subst hsz
  have hD := hD0.self (sz := s.heap.size)
  generalize hAe : va_A (WX k a (nI d) F V M R) s.heap.size = A at *
  have hA : ∀ q : Nat, s.heap.size ≤ q → A q := fun q h => by rw [← hAe]; exact Or.inr h
  have hS : va_S A s.heap s.heap [] := va_S.rf
  have hl := lv_entry ([.ref (a 0), .int z]) (n := 2) (Nat.le_of_ble_eq_true rfl)
  rw [lg_entry_eq]
  generalize (lg_sl ([.ref (a 0), .int z]) ++ List.replicate (2 - (lg_sl ([.ref (a 0), .int z])).length) Slot.unset).toArray = ls at hl ⊢
  have hl : lv_has ls 2 [(0, .ref (a 0)), (1, .int z)] := hl
  have hd31 : d < 31 := by omega
  refine lv_aload_n hx hb d_X_close_0 rfl (lv_at hl 0 rfl) ?_
  refine va_get (D := D) (ci := 1) (v := .int (nI d)) (C := RX) (T := TX) (N := 3) hx hb hts kin_X hown hK hP 0 rfl rfl 2 (by decide) (hts _ kf_X_19) (fun _ h9 => h9) rfl d_X_close_1 ?_
  refine lv_if_gt (tgt := 17) hx hb d_X_close_4 (by decide) (fun c_4 => ?_) (fun c_4 => ?_)
  · obtain ⟨f, rfl⟩ : ∃ f, d = f + 1 := by
      cases d with
      | zero => exact absurd c_4 (by decide)
      | succ f => exact ⟨f, rfl⟩
    have hf : f < 31 := by omega
    refine lv_iload_n hx hb d_X_close_17 rfl (lv_at hl 1 rfl) ?_
    refine lv_if_eq (tgt := 44) hx hb d_X_close_18 (by decide) (fun c_18 => ?_) (fun c_18 => ?_)
    · refine lv_aload_n hx hb d_X_close_44 rfl (lv_at hl 0 rfl) ?_
      refine lv_dup hx hb d_X_close_45 rfl ?_
      refine va_get (D := D) (ci := 1) (v := .int (nI (f + 1))) (C := RX) (T := TX) (N := 3) hx hb hts kin_X hown hK hP 0 rfl rfl 2 (by decide) (hts _ kf_X_19) (fun _ h9 => h9) rfl d_X_close_46 ?_
      refine lv_iconst (v := 1) hx hb d_X_close_49 (by decide) ?_
      refine lv_isub hx hb d_X_close_50 ?_
      rw [nI_pred f]
      refine va_put (D := D) (ci := 1) (v := .int (nI f)) (ty := .int) (C := RX) (T := TX) (N := 3) hx hb hts kin_X tX tyX nmX hown hK hP hD hS 0 rfl rfl 2 (by decide) (hts _ kf_X_19) (fun _ h9 => h9) rfl (by decide +kernel) rfl rfl (Nat.le_of_ble_eq_true rfl) d_X_close_51 (fun H locs hP hD hS => ?_)
      have hP : va_P D wCl (WX k a (nI f) F V M R) H := hP
      have hD : va_D A (WX k a (nI f) F V M R) := hD
      refine lv_aload_n hx hb d_X_close_54 rfl (lv_at hl 0 rfl) ?_
      refine va_get (D := D) (ci := 1) (v := .int (nI f)) (C := RX) (T := TX) (N := 3) hx hb hts kin_X hown hK hP 0 rfl rfl 2 (by decide) (hts _ kf_X_19) (fun _ h9 => h9) rfl d_X_close_55 ?_
      refine W.widen (k := 1) (n := 6) (by omega) (by omega) ?_
      refine vx_ret ?_
      exact W.iret (v := nI f) hx hb hr (fun t ht hW => ⟨⟨_, (f, V, M, R), rfl, ⟨rfl, rfl, fun _ => rfl, fun q => absurd c_18 q⟩, atP hP ht⟩, hS.F ht⟩) hS.2.2 d_X_close_58
    · refine lv_aload_n hx hb d_X_close_21 rfl (lv_at hl 0 rfl) ?_
      refine va_get (D := D) (ci := 1) (v := .ref (a 2)) (C := RX) (T := TX) (N := 3) hx hb hts kin_X hown hK hP 0 rfl rfl 1 (by decide) (hts _ kf_X_15) (fun _ h9 => h9) rfl d_X_close_22 ?_
      refine lv_aload_n hx hb d_X_close_25 rfl (lv_at hl 0 rfl) ?_
      refine va_get (D := D) (ci := 1) (v := .int (nI (f + 1))) (C := RX) (T := TX) (N := 3) hx hb hts kin_X hown hK hP 0 rfl rfl 2 (by decide) (hts _ kf_X_19) (fun _ h9 => h9) rfl d_X_close_26 ?_
      refine lv_iconst (v := 1) hx hb d_X_close_29 (by decide) ?_
      refine lv_isub hx hb d_X_close_30 ?_
      refine va_aldq hx hb hK hP 2 1 rfl rfl (by rw [nI_pred]; exact vp_in_nI hf (by decide)) d_X_close_31 ?_
      rw [show (((nI (f + 1)) - (1)) : Int32).toNatClampNeg = f from by rw [nI_pred]; exact nI_clamp (by omega)]
      refine W.eq (g2 := F0 m 32 ls [.ref (a (3 + f))]) rfl ?_
      refine lv_aload_n hx hb d_X_close_32 rfl (lv_at hl 0 rfl) ?_
      refine va_get (D := D) (ci := 1) (v := .ref (a 2)) (C := RX) (T := TX) (N := 3) hx hb hts kin_X hown hK hP 0 rfl rfl 1 (by decide) (hts _ kf_X_15) (fun _ h9 => h9) rfl d_X_close_33 ?_
      refine lv_aload_n hx hb d_X_close_36 rfl (lv_at hl 0 rfl) ?_
      refine va_get (D := D) (ci := 1) (v := .int (nI (f + 1))) (C := RX) (T := TX) (N := 3) hx hb hts kin_X hown hK hP 0 rfl rfl 2 (by decide) (hts _ kf_X_19) (fun _ h9 => h9) rfl d_X_close_37 ?_
      refine va_aldq hx hb hK hP 2 1 rfl rfl (vp_in_nI hd31 (by decide)) d_X_close_40 ?_
      rw [show ((nI (f + 1)) : Int32).toNatClampNeg = (f + 1) from nI_clamp (by omega)]
      refine W.eq (g2 := F0 m 41 ls [.ref (a (3 + (f + 1))), .ref (a (3 + f))]) rfl ?_
      refine va_callv (va_runVN (As := [.ref (a (3 + (f + 1)))]) (rest := []) (C := RS) (host := RX) ⟨hx, hb, hml, hown, hts⟩ (m_S_copyFrom l D k a (nI (f + 1)) F V M R f hf ((f + 1)) hd31 _) ⟨va_cnB 1 hts (TB_c kc_S_copyFrom) rfl rfl rfl (hE.1 _ nl_X_24) (hts _ kz_S) (by decide +kernel) ⟨Nat.le_of_ble_eq_true rfl, Nat.le_of_ble_eq_true rfl⟩, hts _ ki_S_copyFrom, hts _ ks_S_copyFrom⟩ ⟨PW.bl, va_recv (q := (RS, TS, 3)) hK hP rfl (wx_s hf), fun U hU hW => ⟨rfl, PW.go hK hP hD hS hA hE hU hW⟩⟩ rfl rfl hl.1 rfl (lv_room (Nat.le_of_ble_eq_true rfl)) d_X_close_41 ⟨Nat.le_of_ble_eq_true rfl, Nat.le_of_ble_eq_true rfl⟩) hS (fun q _ h => cut_F hD hS hA q h) (cut_F hD hS hA) (fun uu t H1 locs1 ht hvm hpost hB hz hk hS => ?_)
      rw [ht] at hB
      obtain ⟨V2, M2, R2⟩ := uu
      obtain ⟨e1, e2, e3⟩ := hpost
      dsimp only at e1 e2 e3 hB
      subst e1 e2 e3
      have hP := hB
      have hD := hD.ad (wx_ad : (WX k a (nI (f + 1)) F (va_up V f (va_cpy (V ((f + 1))) (V f) 0 0 256)) (va_up M f (va_cpy (M ((f + 1))) (M f) 0 0 4)) (va_up R f (R ((f + 1))))).map Prod.fst = _)
      generalize H1 = H at hP hS ⊢
      generalize locs1 = locs at hS ⊢
      refine lv_aload_n hx hb d_X_close_44 rfl (lv_at hl 0 rfl) ?_
      refine lv_dup hx hb d_X_close_45 rfl ?_
      refine va_get (D := D) (ci := 1) (v := .int (nI (f + 1))) (C := RX) (T := TX) (N := 3) hx hb hts kin_X hown hK hP 0 rfl rfl 2 (by decide) (hts _ kf_X_19) (fun _ h9 => h9) rfl d_X_close_46 ?_
      refine lv_iconst (v := 1) hx hb d_X_close_49 (by decide) ?_
      refine lv_isub hx hb d_X_close_50 ?_
      rw [nI_pred f]
      refine va_put (D := D) (ci := 1) (v := .int (nI f)) (ty := .int) (C := RX) (T := TX) (N := 3) hx hb hts kin_X tX tyX nmX hown hK hP hD hS 0 rfl rfl 2 (by decide) (hts _ kf_X_19) (fun _ h9 => h9) rfl (by decide +kernel) rfl rfl (Nat.le_of_ble_eq_true rfl) d_X_close_51 (fun H locs hP hD hS => ?_)
      have hP : va_P D wCl (WX k a (nI f) F (va_up V f (va_cpy (V ((f + 1))) (V f) 0 0 256)) (va_up M f (va_cpy (M ((f + 1))) (M f) 0 0 4)) (va_up R f (R ((f + 1))))) H := hP
      have hD : va_D A (WX k a (nI f) F (va_up V f (va_cpy (V ((f + 1))) (V f) 0 0 256)) (va_up M f (va_cpy (M ((f + 1))) (M f) 0 0 4)) (va_up R f (R ((f + 1))))) := hD
      refine lv_aload_n hx hb d_X_close_54 rfl (lv_at hl 0 rfl) ?_
      refine va_get (D := D) (ci := 1) (v := .int (nI f)) (C := RX) (T := TX) (N := 3) hx hb hts kin_X hown hK hP 0 rfl rfl 2 (by decide) (hts _ kf_X_19) (fun _ h9 => h9) rfl d_X_close_55 ?_
      refine W.widen (k := 1) (n := 6) (by omega) (by omega) ?_
      refine vx_ret ?_
      exact W.iret (v := nI f) hx hb hr (fun t ht hW => ⟨⟨_, (f, va_up V f (va_cpy (V (f + 1)) (V f) 0 0 256), va_up M f (va_cpy (M (f + 1)) (M f) 0 0 4), va_up R f (R (f + 1))), rfl, ⟨rfl, rfl, fun q => absurd q c_18, fun _ => rfl⟩, atP hP ht⟩, hS.F ht⟩) hS.2.2 d_X_close_58
  · obtain ⟨sa, hsa⟩ := hE.2.2.1
    exact thr hx hb hl0 hts hown hE hS (hl.1.trans hml.symm) htab hlocks (by decide +kernel) kk_X_51 kz_IllegalStateException kx_ISE kg_ISE hsa d_X_close_7 d_X_close_10 d_X_close_11 d_X_close_13 d_X_close_16 (Nat.le_of_ble_eq_true rfl) (Nat.le_of_ble_eq_true rfl) (Nat.le_of_ble_eq_true rfl) (Nat.le_of_ble_eq_true rfl) (Nat.le_of_ble_eq_true rfl) (Nat.le_of_ble_eq_true rfl) (fun t hv9 hF hq => ⟨(), by
            rcases Nat.eq_zero_or_pos d with q | q
            · exact q
            · exact absurd (show nI 0 < nI d from nI_lt q (by omega)) c_4, ⟨rfl, kept_P hP hq⟩, hF⟩)
