/-! the class: begin, store -/
abbrev rX2 : Room := { frames := 8, cells := 2, slots := 12, locals := 130 }
set_option maxHeartbeats 4000000 in
set_option maxRecDepth 100000 in
theorem m_X_begin (l : Launch) (D : va_G) (k : Nat → ClassId) (a : Nat → Nat) (d : Nat) (hd : d ≤ 30) (F : Nat → Int64) (V M : Nat → Nat → Int64) (R : Nat → Int32) (sz : Nat) : Met l y_X_begin (w_X_begin :: TB) rX0 (va_Pc [.ref (a 0)] (PW D k (WX k a (nI d) F V M R) sz)) (va_Qi (fun (r : Int32) (u : (Nat → Int64) × (Nat → Nat → Int64) × (Nat → Nat → Int64) × (Nat → Int32)) => (∀ j, j < 256 → u.2.1 0 j = V d j) ∧ (∀ j, j < 256 → u.1 j = V d j) ∧ (∀ q, q < 4 → u.2.2.1 0 q = 0) ∧ u.2.2.2 0 = 0 ∧ r = nI (cnt (u.2.1 0) 256)) (fun u t => va_P D wCl (WX k a (nI 0) u.1 u.2.1 u.2.2.1 u.2.2.2) t.heap) (va_A (WX k a (nI d) F V M R) sz)) 0 0 (va_A (WX k a (nI d) F V M R) sz) := by
  refine Met.ofW (cc := b_X_begin) (maxL := 2) (ret := some .int) (by decide) rfl ?_
  intro p e s m args below meth c s₁ B hml hv
  obtain ⟨rfl, hsz, hP, hK, hD0, hE⟩ := hv
  have hx := B.exec
  have hb := B.bytes
  have hr := B.returns
  have hts0 := atoms_spec (ws := w_X_begin :: TB) B.pre
  have hts := fun w (hw : w ∈ TB) => hts0 w (List.mem_cons_of_mem _ hw)
  have hown : s.vm.findClass RX = some m.cls := findClass_of_methodNamed B.named
  have hlocks := B.notSynchronized
  subst hsz
  have hD := hD0.self (sz := s.heap.size)
  generalize hAe : va_A (WX k a (nI d) F V M R) s.heap.size = A at *
  have hA : ∀ q : Nat, s.heap.size ≤ q → A q := fun q h => by rw [← hAe]; exact Or.inr h
  have hS : va_S A s.heap s.heap [] := va_S.rf
  have hl := lv_entry ([.ref (a 0)]) (n := 2) (Nat.le_of_ble_eq_true rfl)
  rw [lg_entry_eq]
  generalize (lg_sl ([.ref (a 0)]) ++ List.replicate (2 - (lg_sl ([.ref (a 0)])).length) Slot.unset).toArray = ls at hl ⊢
  have hl : lv_has ls 2 [(0, .ref (a 0))] := hl
  have hd31 : d < 31 := by omega
  have h031 : 0 < 31 := by decide
  refine lv_aload_n hx hb d_X_begin_0 rfl (lv_at hl 0 rfl) ?_
  refine va_get (D := D) (ci := 1) (v := .ref (a 2)) (C := RX) (T := TX) (N := 3) hx hb hts kin_X hown hK hP 0 rfl rfl 1 (by decide) (hts _ kf_X_15) (fun _ h9 => h9) rfl d_X_begin_1 ?_
  refine lv_iconst (v := 0) hx hb d_X_begin_4 (by decide) ?_
  refine va_aldq hx hb hK hP 2 1 rfl rfl (show vp_in (nI 0) 31 from vp_in_nI (by decide) (by decide)) d_X_begin_5 ?_
  rw [show ((0) : Int32).toNatClampNeg = 0 from rfl]
  refine W.eq (g2 := F0 m 6 ls [.ref (a (3 + 0))]) rfl ?_
  refine lv_astore_n (lv' := [(1, .ref (a (3 + 0))), (0, .ref (a 0))]) hx hb d_X_begin_6 rfl hl (by decide) rfl (fun ls hl => ?_)
  refine lv_aload_n hx hb d_X_begin_7 rfl (lv_at hl 1 rfl) ?_
  refine va_get (D := D) (ci := 1) (v := .int (nI d)) (C := RX) (T := TX) (N := 3) hx hb hts kin_X hown hK hP 0 rfl rfl 2 (by decide) (hts _ kf_X_19) (fun _ h9 => h9) rfl d_X_begin_8 ?_
  refine lv_if_le (tgt := 27) hx hb d_X_begin_11 (by decide) (fun c_11 => ?_) (fun c_11 => ?_)
  · have hd0 : d = 0 := by
      rcases Nat.eq_zero_or_pos d with q | q
      · exact q
      · exact absurd c_11 (nI_nle q (by omega))
    refine lv_aload_n hx hb d_X_begin_27 rfl (lv_at hl 1 rfl) ?_
    refine lv_iconst (v := 0) hx hb d_X_begin_28 (by decide) ?_
    refine va_put (D := D) (ci := 1) (v := .int 0) (ty := .int) (C := RX) (T := TX) (N := 3) hx hb hts kin_X tX tyX nmX hown hK hP hD hS 0 rfl rfl 2 (by decide) (hts _ kf_X_19) (fun _ h9 => h9) rfl (by decide +kernel) rfl rfl (Nat.le_of_ble_eq_true rfl) d_X_begin_29 (fun H locs hP hD hS => ?_)
    have hP : va_P D wCl (WX k a 0 F V M R) H := hP
    have hD : va_D A (WX k a 0 F V M R) := hD
    refine lv_aload_n hx hb d_X_begin_32 rfl (lv_at hl 0 rfl) ?_
    refine va_callv (va_runVN (As := []) (rest := []) (C := RS) (host := RX) ⟨hx, hb, hml, hown, hts⟩ (m_S_forgetCosts l D k a 0 F V M R 0 h031 _) ⟨va_cnB 0 hts (TB_c kc_S_forgetCosts) rfl rfl rfl (hE.1 _ nl_X_28) (hts _ kz_S) (by decide +kernel) ⟨Nat.le_of_ble_eq_true rfl, Nat.le_of_ble_eq_true rfl⟩, hts _ ki_S_forgetCosts, hts _ ks_S_forgetCosts⟩ ⟨PW.bl, va_recv (q := (RS, TS, 3)) hK hP rfl (wx_s h031), fun U hU hW => ⟨rfl, PW.go hK hP hD hS hA hE hU hW⟩⟩ rfl rfl hl.1 rfl (lv_room (Nat.le_of_ble_eq_true rfl)) d_X_begin_33 ⟨Nat.le_of_ble_eq_true rfl, Nat.le_of_ble_eq_true rfl⟩) hS (fun q _ h => cut_F hD hS hA q h) (cut_F hD hS hA) (fun uu t H1 locs1 ht hvm hpost hB hz hk hS => ?_)
    rw [ht] at hB
    obtain ⟨M2, R2⟩ := uu
    obtain ⟨⟨f, hf, e2⟩, e3⟩ := hpost
    dsimp only at e2 e3 hB
    subst e2 e3
    have hP := hB
    have hD := hD.ad (wx_ad : (WX k a 0 F V (va_up M 0 f) (va_up R 0 0)).map Prod.fst = _)
    generalize H1 = H at hP hS ⊢
    generalize locs1 = locs at hS ⊢
    refine lv_aload_n hx hb d_X_begin_36 rfl (lv_at hl 0 rfl) ?_
    refine va_getN (D := D) (host := RX) (ci := 0) (v := .ref (a (34 + 0))) (C := RS) (T := TS) (N := 3) hx hb hts kin_S hown hK hP (0 + 3) (wx_s h031) rfl 0 (by decide) (va_Nw.use rfl (hE.1 _ nf_X_31)) (fun _ h9 => h9) rfl d_X_begin_37 ?_
    refine lv_iconst (v := 0) hx hb d_X_begin_40 (by decide) ?_
    refine lv_aload_n hx hb d_X_begin_41 rfl (lv_at hl 1 rfl) ?_
    refine va_get (D := D) (ci := 1) (v := .ref (a 1)) (C := RX) (T := TX) (N := 3) hx hb hts kin_X hown hK hP 0 rfl rfl 0 (by decide) (hts _ kf_X_9) (fun _ h9 => h9) rfl d_X_begin_42 ?_
    refine lv_iconst (v := 0) hx hb d_X_begin_45 (by decide) ?_
    refine lv_sipush (v := 256) hx hb d_X_begin_46 (by decide) ?_
    refine va_copyl hx hb (hml.trans hl.1.symm) hown (hts _ kl_X_34) (hts _ kn_arraycopyName) (hts _ kt_arraycopyName) (hts _ kz_System) hK hP hD hS (0 + 34) 1 0 0 (wx_v h031) rfl rfl rfl rfl (by decide) (by decide) (by decide) (by decide) (by decide) (fun _ _ => rfl) (Nat.le_of_ble_eq_true rfl) (Nat.le_of_ble_eq_true rfl) d_X_begin_49 (fun H locs hP hD hS => ?_)
    have hP : va_P D wCl (WX k a 0 (va_cpy (V 0) F 0 0 256) V (va_up M 0 f) (va_up R 0 0)) H := hP
    have hD : va_D A (WX k a 0 (va_cpy (V 0) F 0 0 256) V (va_up M 0 f) (va_up R 0 0)) := hD
    refine lv_aload_n hx hb d_X_begin_52 rfl (lv_at hl 0 rfl) ?_
    refine vp_callSi (va_runVN (As := []) (rest := []) (C := RS) (host := RX) ⟨hx, hb, hml, hown, hts⟩ (m_S_filledPlaces l D k a 0 (va_cpy (V 0) F 0 0 256) V (va_up M 0 f) (va_up R 0 0) 0 h031 _) ⟨va_cnB 0 hts (TB_c kc_S_filledPlaces) rfl rfl rfl (hE.1 _ nl_X_40) (hts _ kz_S) (by decide +kernel) ⟨Nat.le_of_ble_eq_true rfl, Nat.le_of_ble_eq_true rfl⟩, hts _ ki_S_filledPlaces, hts _ ks_S_filledPlaces⟩ ⟨PW.bl, va_recv (q := (RS, TS, 3)) hK hP rfl (wx_s h031), fun U hU hW => ⟨rfl, PW.go hK hP hD hS hA hE hU hW⟩⟩ rfl rfl hl.1 rfl (lv_room (Nat.le_of_ble_eq_true rfl)) d_X_begin_53 ⟨Nat.le_of_ble_eq_true rfl, Nat.le_of_ble_eq_true rfl⟩).run (fun r1 hr1 => ?_)
    have hV : ∀ j, j < 256 → V 0 j = V d j := fun j _ => by rw [hd0]
    exact W.iret (v := r1) hx hb hr (fun t ht hW => ⟨⟨_, (va_cpy (V 0) F 0 0 256, V, va_up M 0 f, va_up R 0 0), rfl, ⟨hV, fun j hj => (pk_cpy_in (Nat.zero_le j) (by omega)).trans (by rw [Nat.zero_add, Nat.sub_zero]; exact hV j hj), fun q hq => (congrFun (va_up_self M 0 f) q).trans (hf q hq), va_up_self R 0 0, hr1⟩, atP hP ht⟩, hS.F ht⟩) hS.2.2 d_X_begin_56
  · refine lv_aload_n hx hb d_X_begin_14 rfl (lv_at hl 0 rfl) ?_
    refine lv_aload_n hx hb d_X_begin_15 rfl (lv_at hl 1 rfl) ?_
    refine va_get (D := D) (ci := 1) (v := .ref (a 2)) (C := RX) (T := TX) (N := 3) hx hb hts kin_X hown hK hP 0 rfl rfl 1 (by decide) (hts _ kf_X_15) (fun _ h9 => h9) rfl d_X_begin_16 ?_
    refine lv_aload_n hx hb d_X_begin_19 rfl (lv_at hl 1 rfl) ?_
    refine va_get (D := D) (ci := 1) (v := .int (nI d)) (C := RX) (T := TX) (N := 3) hx hb hts kin_X hown hK hP 0 rfl rfl 2 (by decide) (hts _ kf_X_19) (fun _ h9 => h9) rfl d_X_begin_20 ?_
    refine va_aldq hx hb hK hP 2 1 rfl rfl (vp_in_nI hd31 (by decide)) d_X_begin_23 ?_
    rw [show ((nI d) : Int32).toNatClampNeg = d from nI_clamp (by omega)]
    refine W.eq (g2 := F0 m 24 ls [.ref (a (3 + d)), .ref (a (3 + 0))]) rfl ?_
    refine va_callv (va_runVN (As := [.ref (a (3 + d))]) (rest := []) (C := RS) (host := RX) ⟨hx, hb, hml, hown, hts⟩ (m_S_copyFrom l D k a (nI d) F V M R 0 h031 d hd31 _) ⟨va_cnB 1 hts (TB_c kc_S_copyFrom) rfl rfl rfl (hE.1 _ nl_X_24) (hts _ kz_S) (by decide +kernel) ⟨Nat.le_of_ble_eq_true rfl, Nat.le_of_ble_eq_true rfl⟩, hts _ ki_S_copyFrom, hts _ ks_S_copyFrom⟩ ⟨PW.bl, va_recv (q := (RS, TS, 3)) hK hP rfl (wx_s h031), fun U hU hW => ⟨rfl, PW.go hK hP hD hS hA hE hU hW⟩⟩ rfl rfl hl.1 rfl (lv_room (Nat.le_of_ble_eq_true rfl)) d_X_begin_24 ⟨Nat.le_of_ble_eq_true rfl, Nat.le_of_ble_eq_true rfl⟩) hS (fun q _ h => cut_F hD hS hA q h) (cut_F hD hS hA) (fun uu t H1 locs1 ht hvm hpost hB hz hk hS => ?_)
    rw [ht] at hB
    obtain ⟨V2, M2, R2⟩ := uu
    obtain ⟨e1, e2, e3⟩ := hpost
    dsimp only at e1 e2 e3 hB
    subst e1 e2 e3
    have hP := hB
    have hD := hD.ad (wx_ad : (WX k a (nI d) F (va_up V 0 (va_cpy (V d) (V 0) 0 0 256)) (va_up M 0 (va_cpy (M d) (M 0) 0 0 4)) (va_up R 0 (R d))).map Prod.fst = _)
    generalize H1 = H at hP hS ⊢
    generalize locs1 = locs at hS ⊢
    refine lv_aload_n hx hb d_X_begin_27 rfl (lv_at hl 1 rfl) ?_
    refine lv_iconst (v := 0) hx hb d_X_begin_28 (by decide) ?_
    refine va_put (D := D) (ci := 1) (v := .int 0) (ty := .int) (C := RX) (T := TX) (N := 3) hx hb hts kin_X tX tyX nmX hown hK hP hD hS 0 rfl rfl 2 (by decide) (hts _ kf_X_19) (fun _ h9 => h9) rfl (by decide +kernel) rfl rfl (Nat.le_of_ble_eq_true rfl) d_X_begin_29 (fun H locs hP hD hS => ?_)
    have hP : va_P D wCl (WX k a 0 F (va_up V 0 (va_cpy (V d) (V 0) 0 0 256)) (va_up M 0 (va_cpy (M d) (M 0) 0 0 4)) (va_up R 0 (R d))) H := hP
    have hD : va_D A (WX k a 0 F (va_up V 0 (va_cpy (V d) (V 0) 0 0 256)) (va_up M 0 (va_cpy (M d) (M 0) 0 0 4)) (va_up R 0 (R d))) := hD
    refine lv_aload_n hx hb d_X_begin_32 rfl (lv_at hl 0 rfl) ?_
    obtain ⟨V0, eV0⟩ : ∃ z, z = va_up V 0 (va_cpy (V d) (V 0) 0 0 256) := ⟨_, rfl⟩
    obtain ⟨M0, eM0⟩ : ∃ z, z = va_up M 0 (va_cpy (M d) (M 0) 0 0 4) := ⟨_, rfl⟩
    obtain ⟨R0, eR0⟩ : ∃ z, z = va_up R 0 (R d) := ⟨_, rfl⟩
    rw [← eV0, ← eM0, ← eR0] at hP hD
    refine va_callv (va_runVN (As := []) (rest := []) (C := RS) (host := RX) ⟨hx, hb, hml, hown, hts⟩ (m_S_forgetCosts l D k a 0 F V0 M0 R0 0 h031 _) ⟨va_cnB 0 hts (TB_c kc_S_forgetCosts) rfl rfl rfl (hE.1 _ nl_X_28) (hts _ kz_S) (by decide +kernel) ⟨Nat.le_of_ble_eq_true rfl, Nat.le_of_ble_eq_true rfl⟩, hts _ ki_S_forgetCosts, hts _ ks_S_forgetCosts⟩ ⟨PW.bl, va_recv (q := (RS, TS, 3)) hK hP rfl (wx_s h031), fun U hU hW => ⟨rfl, PW.go hK hP hD hS hA hE hU hW⟩⟩ rfl rfl hl.1 rfl (lv_room (Nat.le_of_ble_eq_true rfl)) d_X_begin_33 ⟨Nat.le_of_ble_eq_true rfl, Nat.le_of_ble_eq_true rfl⟩) hS (fun q _ h => cut_F hD hS hA q h) (cut_F hD hS hA) (fun uu t H1 locs1 ht hvm hpost hB hz hk hS => ?_)
    rw [ht] at hB
    obtain ⟨M2, R2⟩ := uu
    obtain ⟨⟨f, hf, e2⟩, e3⟩ := hpost
    dsimp only at e2 e3 hB
    subst e2 e3
    have hP := hB
    have hD := hD.ad (wx_ad : (WX k a 0 F V0 (va_up M0 0 f) (va_up R0 0 0)).map Prod.fst = _)
    generalize H1 = H at hP hS ⊢
    generalize locs1 = locs at hS ⊢
    refine lv_aload_n hx hb d_X_begin_36 rfl (lv_at hl 0 rfl) ?_
    refine va_getN (D := D) (host := RX) (ci := 0) (v := .ref (a (34 + 0))) (C := RS) (T := TS) (N := 3) hx hb hts kin_S hown hK hP (0 + 3) (wx_s h031) rfl 0 (by decide) (va_Nw.use rfl (hE.1 _ nf_X_31)) (fun _ h9 => h9) rfl d_X_begin_37 ?_
    refine lv_iconst (v := 0) hx hb d_X_begin_40 (by decide) ?_
    refine lv_aload_n hx hb d_X_begin_41 rfl (lv_at hl 1 rfl) ?_
    refine va_get (D := D) (ci := 1) (v := .ref (a 1)) (C := RX) (T := TX) (N := 3) hx hb hts kin_X hown hK hP 0 rfl rfl 0 (by decide) (hts _ kf_X_9) (fun _ h9 => h9) rfl d_X_begin_42 ?_
    refine lv_iconst (v := 0) hx hb d_X_begin_45 (by decide) ?_
    refine lv_sipush (v := 256) hx hb d_X_begin_46 (by decide) ?_
    refine va_copyl hx hb (hml.trans hl.1.symm) hown (hts _ kl_X_34) (hts _ kn_arraycopyName) (hts _ kt_arraycopyName) (hts _ kz_System) hK hP hD hS (0 + 34) 1 0 0 (wx_v h031) rfl rfl rfl rfl (by decide) (by decide) (by decide) (by decide) (by decide) (fun _ _ => rfl) (Nat.le_of_ble_eq_true rfl) (Nat.le_of_ble_eq_true rfl) d_X_begin_49 (fun H locs hP hD hS => ?_)
    have hP : va_P D wCl (WX k a 0 (va_cpy (V0 0) F 0 0 256) V0 (va_up M0 0 f) (va_up R0 0 0)) H := hP
    have hD : va_D A (WX k a 0 (va_cpy (V0 0) F 0 0 256) V0 (va_up M0 0 f) (va_up R0 0 0)) := hD
    refine lv_aload_n hx hb d_X_begin_52 rfl (lv_at hl 0 rfl) ?_
    refine vp_callSi (va_runVN (As := []) (rest := []) (C := RS) (host := RX) ⟨hx, hb, hml, hown, hts⟩ (m_S_filledPlaces l D k a 0 (va_cpy (V0 0) F 0 0 256) V0 (va_up M0 0 f) (va_up R0 0 0) 0 h031 _) ⟨va_cnB 0 hts (TB_c kc_S_filledPlaces) rfl rfl rfl (hE.1 _ nl_X_40) (hts _ kz_S) (by decide +kernel) ⟨Nat.le_of_ble_eq_true rfl, Nat.le_of_ble_eq_true rfl⟩, hts _ ki_S_filledPlaces, hts _ ks_S_filledPlaces⟩ ⟨PW.bl, va_recv (q := (RS, TS, 3)) hK hP rfl (wx_s h031), fun U hU hW => ⟨rfl, PW.go hK hP hD hS hA hE hU hW⟩⟩ rfl rfl hl.1 rfl (lv_room (Nat.le_of_ble_eq_true rfl)) d_X_begin_53 ⟨Nat.le_of_ble_eq_true rfl, Nat.le_of_ble_eq_true rfl⟩).run (fun r1 hr1 => ?_)
    have hV : ∀ j, j < 256 → V0 0 j = V d j := fun j hj => by rw [eV0, va_up_self]; exact (pk_cpy_in (Nat.zero_le j) (by omega)).trans (by rw [Nat.zero_add, Nat.sub_zero])
    exact W.iret (v := r1) hx hb hr (fun t ht hW => ⟨⟨_, (va_cpy (V0 0) F 0 0 256, V0, va_up M0 0 f, va_up R0 0 0), rfl, ⟨hV, fun j hj => (pk_cpy_in (Nat.zero_le j) (by omega)).trans (by rw [Nat.zero_add, Nat.sub_zero]; exact hV j hj), fun q hq => (congrFun (va_up_self M0 0 f) q).trans (hf q hq), va_up_self R0 0 0, hr1⟩, atP hP ht⟩, hS.F ht⟩) hS.2.2 d_X_begin_56
set_option maxHeartbeats 4000000 in
set_option maxRecDepth 100000 in
theorem m_X_store (l : Launch) (hl0 : l.stackTraces = false) (D : va_G) (k : Nat → ClassId) (a : Nat → Nat) (d : Nat) (hd : d ≤ 30) (F : Nat → Int64) (V M : Nat → Nat → Int64) (R : Nat → Int32) (o1 p1 : Int32) (x : Int64) (gas : Int32) (sz : Nat) : vx_Met l y_X_store (w_X_store :: TB) rX2 (va_Pc [.ref (a 0), .int o1, .int p1, .long x, .int gas] (PW D k (WX k a (nI d) F V M R) sz)) (va_Qi (fun (r : Int32) (w : (Nat → Nat → Int64) × (Nat → Nat → Int64) × (Nat → Int32)) => ∃ u v : Nat, u < 4 ∧ v < 64 ∧ o1 = nI u ∧ p1 = nI v ∧ r = fWC (F (u * 64 + v)) (V d (u * 64 + v)) x + (if tb (M d u) v then 0 else 2100) ∧ ¬ gas ≤ 2300 ∧ fWC (F (u * 64 + v)) (V d (u * 64 + v)) x + (if tb (M d u) v then 0 else 2100) ≤ gas ∧ w.1 = va_up V d (vp_updL (V d) (u * 64 + v) x) ∧ w.2.1 = va_up M d (vp_updL (M d) u (tbs (M d u) v)) ∧ w.2.2 = va_up R d (R d + fRC (F (u * 64 + v)) (V d (u * 64 + v)) x)) (fun w t => va_P D wCl (WX k a (nI d) F w.1 w.2.1 w.2.2) t.heap) (va_A (WX k a (nI d) F V M R) sz)) (vx_X (fun _ : Unit => True) (fun E _ t => ((E = EIAE ∧ ¬ okP o1 p1) ∨ (E = EISE ∧ ∃ u v : Nat, u < 4 ∧ v < 64 ∧ o1 = nI u ∧ p1 = nI v ∧ (gas ≤ 2300 ∨ ¬ fWC (F (u * 64 + v)) (V d (u * 64 + v)) x + (if tb (M d u) v then 0 else 2100) ≤ gas))) ∧ va_P D wCl (WX k a (nI d) F V M R) t.heap) (va_A (WX k a (nI d) F V M R) sz)) 2 12 (va_A (WX k a (nI d) F V M R) sz) := by
  refine vx_ofW (cc := b_X_store) (maxL := 13) (ret := some .int) (by decide) rfl ?_
  intro p e s m args below meth c s₁ B hml htab hv
  obtain ⟨rfl, hsz, hP, hK, hD0, hE⟩ := hv
  have hx := B.exec
  have hb := B.bytes
  have hr := B.returns
  have hts0 := atoms_spec (ws := w_X_store :: TB) B.pre
  have hts := fun w (hw : w ∈ TB) => hts0 w (List.mem_cons_of_mem _ hw)
  have hown : s.vm.findClass RX = some m.cls := findClass_of_methodNamed B.named
  have hlocks := B.notSynchronized
  subst hsz
  have hD := hD0.self (sz := s.heap.size)
  generalize hAe : va_A (WX k a (nI d) F V M R) s.heap.size = A at *
  have hA : ∀ q : Nat, s.heap.size ≤ q → A q := fun q h => by rw [← hAe]; exact Or.inr h
  have hS : va_S A s.heap s.heap [] := va_S.rf
  have hl := lv_entry ([.ref (a 0), .int o1, .int p1, .long x, .int gas]) (n := 13) (Nat.le_of_ble_eq_true rfl)
  rw [lg_entry_eq]
  generalize (lg_sl ([.ref (a 0), .int o1, .int p1, .long x, .int gas]) ++ List.replicate (13 - (lg_sl ([.ref (a 0), .int o1, .int p1, .long x, .int gas])).length) Slot.unset).toArray = ls at hl ⊢
  have hl : lv_has ls 13 [(0, .ref (a 0)), (1, .int o1), (2, .int p1), (3, .long x), (5, .int gas)] := hl
  have hd31 : d < 31 := by omega
  refine lv_iload_n hx hb d_X_store_0 rfl (lv_at hl 1 rfl) ?_
  refine lv_iload_n hx hb d_X_store_1 rfl (lv_at hl 2 rfl) ?_
  refine vx_callv (vx_runS (As := [.int o1, .int p1]) (rest := []) ⟨hx, hb, hml, hown, hts⟩ (m_X_checkPlace l hl0 D k (WX k a (nI d) F V M R) o1 p1 _) (va_cwS 2 hts (TB_g3 kl_X_56 kt_X_checkPlace kz_X (TB_c kc_X_checkPlace)) rfl rfl rfl (by decide +kernel) ⟨Nat.le_of_ble_eq_true rfl, Nat.le_of_ble_eq_true rfl⟩) ⟨PW.bl, fun U hU hW => ⟨rfl, PW.go hK hP hD hS hA hE hU hW⟩⟩ rfl rfl hl.1 rfl (lv_room (Nat.le_of_ble_eq_true rfl)) d_X_store_2 ⟨Nat.le_of_ble_eq_true rfl, Nat.le_of_ble_eq_true rfl⟩) hS (fun q _ h => cut_F hD hS hA q h) (cut_F hD hS hA) (fun q _ h => cut_F hD hS hA q h) (fun E ce q9 u t H1 locs1 ht hvm px hBX hz hk hS hcell hv9 hcl => ?_) (fun u t H1 locs1 ht hvm hpost hB hz hk hS => ?_)
  · obtain ⟨rfl, hB⟩ := hBX
    have hB : va_P D wCl (WX k a (nI d) F V M R) H1 := by rw [← ht]; exact hB
    exact vx_out (fun x h => (htab x h).elim) hlocks hcell hv9 hcl (fun t ht hvm => ⟨(), trivial, ⟨Or.inl ⟨rfl, px⟩, atP hB ht⟩, hS.F ht⟩) hS.2.2 (Nat.le_of_ble_eq_true rfl) (Nat.le_of_ble_eq_true rfl)
  rw [ht] at hB
  have hP := hB
  generalize H1 = H at hP hS ⊢
  generalize locs1 = locs at hS ⊢
  obtain ⟨u1, v1, hu, hv, rfl, rfl⟩ := hpost
  refine lv_aload_n hx hb d_X_store_5 rfl (lv_at hl 0 rfl) ?_
  refine va_get (D := D) (ci := 1) (v := .ref (a 2)) (C := RX) (T := TX) (N := 3) hx hb hts kin_X hown hK hP 0 rfl rfl 1 (by decide) (hts _ kf_X_15) (fun _ h9 => h9) rfl d_X_store_6 ?_
  refine lv_aload_n hx hb d_X_store_9 rfl (lv_at hl 0 rfl) ?_
  refine va_get (D := D) (ci := 1) (v := .int (nI d)) (C := RX) (T := TX) (N := 3) hx hb hts kin_X hown hK hP 0 rfl rfl 2 (by decide) (hts _ kf_X_19) (fun _ h9 => h9) rfl d_X_store_10 ?_
  refine va_aldq hx hb hK hP 2 1 rfl rfl (vp_in_nI hd31 (by decide)) d_X_store_13 ?_
  rw [show ((nI d) : Int32).toNatClampNeg = d from nI_clamp (by omega)]
  refine W.eq (g2 := F0 m 14 ls [.ref (a (3 + d))]) rfl ?_
  refine lv_astore (lv' := [(6, .ref (a (3 + d))), (0, .ref (a 0)), (1, .int (nI u1)), (2, .int (nI v1)), (3, .long x), (5, .int gas)]) hx hb d_X_store_14 hl (by decide) rfl (fun ls hl => ?_)
  refine lv_iload_n hx hb d_X_store_16 rfl (lv_at hl 2 rfl) ?_
  refine lv_iload_n hx hb d_X_store_17 rfl (lv_at hl 3 rfl) ?_
  refine vp_callSi (W.runS (As := [.int (nI u1), .int (nI v1)]) (rest := []) ⟨hx, hb, hml, hown, hts⟩ (m_X_cellOf l (nI u1) (nI v1)) (va_cwS 2 hts (TB_g3 kl_X_67 kt_X_cellOf kz_X (TB_c kc_X_cellOf)) rfl rfl rfl (by decide +kernel) ⟨Nat.le_of_ble_eq_true rfl, Nat.le_of_ble_eq_true rfl⟩) preEq rfl rfl hl.1 rfl (lv_room (Nat.le_of_ble_eq_true rfl)) d_X_store_18 ⟨Nat.le_of_ble_eq_true rfl, Nat.le_of_ble_eq_true rfl⟩) (fun r1 hr1 => ?_)
  obtain rfl : r1 = nI (u1 * 64 + v1) := by rw [hr1, ← nI_add, ← pk_mul]; rfl
  have hc : u1 * 64 + v1 < 256 := by omega
  refine lv_istore (lv' := [(7, .int (nI (u1 * 64 + v1))), (6, .ref (a (3 + d))), (0, .ref (a 0)), (1, .int (nI u1)), (2, .int (nI v1)), (3, .long x), (5, .int gas)]) hx hb d_X_store_21 hl (by decide) rfl (fun ls hl => ?_)
  refine lv_aload_n hx hb d_X_store_23 rfl (lv_at hl 2 rfl) ?_
  refine va_get (D := D) (ci := 1) (v := .ref (a 1)) (C := RX) (T := TX) (N := 3) hx hb hts kin_X hown hK hP 0 rfl rfl 0 (by decide) (hts _ kf_X_9) (fun _ h9 => h9) rfl d_X_store_24 ?_
  refine lv_iload hx hb d_X_store_27 (lv_at hl 0 rfl) ?_
  refine va_lald hx hb hK hP 1 0 rfl rfl (vp_in_nI hc (by decide)) d_X_store_29 ?_
  rw [nI_clamp (show u1 * 64 + v1 < 2 ^ 31 by omega)]
  refine lv_lstore (lv' := [(8, .long (F (u1 * 64 + v1))), (7, .int (nI (u1 * 64 + v1))), (6, .ref (a (3 + d))), (0, .ref (a 0)), (1, .int (nI u1)), (2, .int (nI v1)), (3, .long x), (5, .int gas)]) hx hb d_X_store_30 hl (by decide) rfl (fun ls hl => ?_)
  refine lv_aload hx hb d_X_store_32 (lv_at hl 2 rfl) ?_
  refine va_getN (D := D) (host := RX) (ci := 0) (v := .ref (a (34 + d))) (C := RS) (T := TS) (N := 3) hx hb hts kin_S hown hK hP (d + 3) (wx_s hd31) rfl 0 (by decide) (va_Nw.use rfl (hE.1 _ nf_X_31)) (fun _ h9 => h9) rfl d_X_store_34 ?_
  refine lv_iload hx hb d_X_store_37 (lv_at hl 1 rfl) ?_
  refine va_lald hx hb hK hP (d + 34) 0 (wx_v hd31) rfl (vp_in_nI hc (by decide)) d_X_store_39 ?_
  rw [nI_clamp (show u1 * 64 + v1 < 2 ^ 31 by omega)]
  refine lv_lstore (lv' := [(10, .long (V d (u1 * 64 + v1))), (8, .long (F (u1 * 64 + v1))), (7, .int (nI (u1 * 64 + v1))), (6, .ref (a (3 + d))), (0, .ref (a 0)), (1, .int (nI u1)), (2, .int (nI v1)), (3, .long x), (5, .int gas)]) hx hb d_X_store_40 hl (by decide) rfl (fun ls hl => ?_)
  refine lv_lload hx hb d_X_store_42 (lv_at hl 1 rfl) ?_
  refine lv_lload hx hb d_X_store_44 (lv_at hl 0 rfl) ?_
  refine lv_lload_n hx hb d_X_store_46 rfl (lv_at hl 7 rfl) ?_
  refine vp_callSi (W.runS (As := [.long (F (u1 * 64 + v1)), .long (V d (u1 * 64 + v1)), .long x]) (rest := []) ⟨hx, hb, hml, hown, hts⟩ (m_X_writeCost l (F (u1 * 64 + v1)) (V d (u1 * 64 + v1)) x) (va_cwS 3 hts (TB_g3 kl_X_71 kt_X_writeCost kz_X (TB_c kc_X_writeCost)) rfl rfl rfl (by decide +kernel) ⟨Nat.le_of_ble_eq_true rfl, Nat.le_of_ble_eq_true rfl⟩) preEq rfl rfl hl.1 rfl (lv_room (Nat.le_of_ble_eq_true rfl)) d_X_store_47 ⟨Nat.le_of_ble_eq_true rfl, Nat.le_of_ble_eq_true rfl⟩) (fun r2 hr2 => ?_)
  refine lv_istore (lv' := [(12, .int r2), (10, .long (V d (u1 * 64 + v1))), (8, .long (F (u1 * 64 + v1))), (7, .int (nI (u1 * 64 + v1))), (6, .ref (a (3 + d))), (0, .ref (a 0)), (1, .int (nI u1)), (2, .int (nI v1)), (3, .long x), (5, .int gas)]) hx hb d_X_store_50 hl (by decide) rfl (fun ls hl => ?_)
  refine lv_aload hx hb d_X_store_52 (lv_at hl 4 rfl) ?_
  refine lv_iload_n hx hb d_X_store_54 rfl (lv_at hl 6 rfl) ?_
  refine lv_iload_n hx hb d_X_store_55 rfl (lv_at hl 7 rfl) ?_
  refine vp_callSi (va_runVN (As := [.int (nI u1), .int (nI v1)]) (rest := []) (C := RS) (host := RX) ⟨hx, hb, hml, hown, hts⟩ (m_S_isMarked l D k a (nI d) F V M R d hd31 u1 v1 hu hv _) ⟨va_cnB 2 hts (TB_c kc_S_isMarked) rfl rfl rfl (hE.1 _ nl_X_60) (hts _ kz_S) (by decide +kernel) ⟨Nat.le_of_ble_eq_true rfl, Nat.le_of_ble_eq_true rfl⟩, hts _ ki_S_isMarked, hts _ ks_S_isMarked⟩ ⟨PW.bl, va_recv (q := (RS, TS, 3)) hK hP rfl (wx_s hd31), fun U hU hW => ⟨rfl, PW.go hK hP hD hS hA hE hU hW⟩⟩ rfl rfl hl.1 rfl (lv_room (Nat.le_of_ble_eq_true rfl)) d_X_store_56 ⟨Nat.le_of_ble_eq_true rfl, Nat.le_of_ble_eq_true rfl⟩).run (fun r3 hr3 => ?_)
  refine lv_if_ne (tgt := 68) hx hb d_X_store_59 (by decide) (fun c_59 => ?_) (fun c_59 => ?_)
  · have er : (r2 : Int32) = fWC (F (u1 * 64 + v1)) (V d (u1 * 64 + v1)) x + (if tb (M d u1) v1 then 0 else 2100) := by
      rw [hr3] at c_59
      cases hq : tb (M d u1) v1 <;> rw [hq] at c_59 <;> first | (rw [hr2]; rfl) | (rw [hr2, if_pos rfl]; exact (Int32.add_zero _).symm) | exact absurd rfl c_59 | exact absurd c_59 (by decide)
    refine lv_iload hx hb d_X_store_68 (lv_at hl 9 rfl) ?_
    refine lv_sipush (v := 2300) hx hb d_X_store_70 (by decide) ?_
    refine lv_icmp_le (tgt := 83) hx hb d_X_store_73 (by decide) (fun c_73 => ?_) (fun c_73 => ?_)
    · obtain ⟨sa, hsa⟩ := hE.2.2.2.1
      exact thr hx hb hl0 hts hown hE hS (hl.1.trans hml.symm) htab hlocks (by decide +kernel) kk_X_51 kz_IllegalStateException kx_ISE kg_ISE hsa d_X_store_83 d_X_store_86 d_X_store_87 d_X_store_89 d_X_store_92 (Nat.le_of_ble_eq_true rfl) (Nat.le_of_ble_eq_true rfl) (Nat.le_of_ble_eq_true rfl) (Nat.le_of_ble_eq_true rfl) (Nat.le_of_ble_eq_true rfl) (Nat.le_of_ble_eq_true rfl) (fun t hv9 hF hq => ⟨(), trivial, ⟨Or.inr ⟨rfl, u1, v1, hu, hv, rfl, rfl, Or.inl c_73⟩, kept_P hP hq⟩, hF⟩)
    · refine lv_iload hx hb d_X_store_76 (lv_at hl 0 rfl) ?_
      refine lv_iload hx hb d_X_store_78 (lv_at hl 9 rfl) ?_
      refine lv_icmp_le (tgt := 93) hx hb d_X_store_80 (by decide) (fun c_80 => ?_) (fun c_80 => ?_)
      · refine lv_aload hx hb d_X_store_93 (lv_at hl 4 rfl) ?_
        refine lv_iload_n hx hb d_X_store_95 rfl (lv_at hl 6 rfl) ?_
        refine lv_iload_n hx hb d_X_store_96 rfl (lv_at hl 7 rfl) ?_
        refine va_callv (va_runVN (As := [.int (nI u1), .int (nI v1)]) (rest := []) (C := RS) (host := RX) ⟨hx, hb, hml, hown, hts⟩ (m_S_mark l D k a (nI d) F V M R d hd31 u1 v1 hu hv _) ⟨va_cnB 2 hts (TB_c kc_S_mark) rfl rfl rfl (hE.1 _ nl_X_64) (hts _ kz_S) (by decide +kernel) ⟨Nat.le_of_ble_eq_true rfl, Nat.le_of_ble_eq_true rfl⟩, hts _ ki_S_mark, hts _ ks_S_mark⟩ ⟨PW.bl, va_recv (q := (RS, TS, 3)) hK hP rfl (wx_s hd31), fun U hU hW => ⟨rfl, PW.go hK hP hD hS hA hE hU hW⟩⟩ rfl rfl hl.1 rfl (lv_room (Nat.le_of_ble_eq_true rfl)) d_X_store_97 ⟨Nat.le_of_ble_eq_true rfl, Nat.le_of_ble_eq_true rfl⟩) hS (fun q _ h => cut_F hD hS hA q h) (cut_F hD hS hA) (fun uu t H1 locs1 ht hvm hpost hB hz hk hS => ?_)
        rw [ht] at hB
        subst hpost
        have hP := hB
        have hD := hD.ad (wx_ad : (WX k a (nI d) F V (va_up M d (vp_updL (M d) u1 (tbs (M d u1) v1))) R).map Prod.fst = _)
        generalize H1 = H at hP hS ⊢
        generalize locs1 = locs at hS ⊢
        refine lv_aload hx hb d_X_store_100 (lv_at hl 4 rfl) ?_
        refine lv_dup hx hb d_X_store_102 rfl ?_
        refine va_getN (D := D) (host := RX) (ci := 0) (v := .int (R d)) (C := RS) (T := TS) (N := 3) hx hb hts kin_S hown hK hP (d + 3) (wx_s hd31) rfl 2 (by decide) (va_Nw.use rfl (hE.1 _ nf_X_77)) (fun _ h9 => h9) rfl d_X_store_103 ?_
        refine lv_lload hx hb d_X_store_106 (lv_at hl 2 rfl) ?_
        refine lv_lload hx hb d_X_store_108 (lv_at hl 1 rfl) ?_
        refine lv_lload_n hx hb d_X_store_110 rfl (lv_at hl 8 rfl) ?_
        refine vp_callSi (W.runS (As := [.long (F (u1 * 64 + v1)), .long (V d (u1 * 64 + v1)), .long x]) (rest := [.int (R d), .ref (a (3 + d))]) ⟨hx, hb, hml, hown, hts⟩ (m_X_refundChange l (F (u1 * 64 + v1)) (V d (u1 * 64 + v1)) x) (va_cwS 3 hts (TB_g3 kl_X_80 kt_X_refundChange kz_X (TB_c kc_X_refundChange)) rfl rfl rfl (by decide +kernel) ⟨Nat.le_of_ble_eq_true rfl, Nat.le_of_ble_eq_true rfl⟩) preEq rfl rfl hl.1 rfl (lv_room (Nat.le_of_ble_eq_true rfl)) d_X_store_111 ⟨Nat.le_of_ble_eq_true rfl, Nat.le_of_ble_eq_true rfl⟩) (fun r4 hr4 => ?_)
        refine lv_iadd hx hb d_X_store_114 ?_
        refine va_putN (D := D) (host := RX) (ci := 0) (v := .int ((R d) + (r4))) (ty := .int) (C := RS) (T := TS) (N := 3) hx hb hts kin_S tS tyS nmS hown hK hP hD hS (d + 3) (wx_s hd31) rfl 2 (by decide) (va_Nw.use rfl (hE.1 _ nf_X_77)) (fun _ h9 => h9) rfl (by decide +kernel) rfl rfl (Nat.le_of_ble_eq_true rfl) d_X_store_115 (fun H locs hP hD hS => ?_)
        have hP := (congrArg (fun w => va_P D wCl w H) (wx_setR hd31)).mp hP
        have hD := (congrArg (fun w => va_D A w) (wx_setR hd31)).mp hD
        have hP : va_P D wCl (WX k a (nI d) F V (va_up M d (vp_updL (M d) u1 (tbs (M d u1) v1))) (va_up R d ((R d) + (r4)))) H := hP
        have hD : va_D A (WX k a (nI d) F V (va_up M d (vp_updL (M d) u1 (tbs (M d u1) v1))) (va_up R d ((R d) + (r4)))) := hD
        refine lv_aload hx hb d_X_store_118 (lv_at hl 4 rfl) ?_
        refine va_getN (D := D) (host := RX) (ci := 0) (v := .ref (a (34 + d))) (C := RS) (T := TS) (N := 3) hx hb hts kin_S hown hK hP (d + 3) (wx_s hd31) rfl 0 (by decide) (va_Nw.use rfl (hE.1 _ nf_X_31)) (fun _ h9 => h9) rfl d_X_store_120 ?_
        refine lv_iload hx hb d_X_store_123 (lv_at hl 3 rfl) ?_
        refine lv_lload_n hx hb d_X_store_125 rfl (lv_at hl 8 rfl) ?_
        refine va_last hx hb hK hP hD hS (d + 34) 0 (wx_v hd31) rfl (vp_in_nI hc (by decide)) d_X_store_126 (fun H locs hP hD hS => ?_)
        have hP := (congrArg (fun w => va_P D wCl w H) (wx_setV hd31)).mp hP
        have hD := (congrArg (fun w => va_D A w) (wx_setV hd31)).mp hD
        have hP : va_P D wCl (WX k a (nI d) F (va_up V d (vp_updL (V d) ((nI (u1 * 64 + v1)).toNatClampNeg) x)) (va_up M d (vp_updL (M d) u1 (tbs (M d u1) v1))) (va_up R d ((R d) + (r4)))) H := hP
        have hD : va_D A (WX k a (nI d) F (va_up V d (vp_updL (V d) ((nI (u1 * 64 + v1)).toNatClampNeg) x)) (va_up M d (vp_updL (M d) u1 (tbs (M d u1) v1))) (va_up R d ((R d) + (r4)))) := hD
        rw [nI_clamp (show u1 * 64 + v1 < 2 ^ 31 by omega), hr4] at hP
        refine lv_iload hx hb d_X_store_127 (lv_at hl 0 rfl) ?_
        refine W.widen (k := 2) (n := 12) (by omega) (by omega) ?_
        refine vx_ret ?_
        exact W.iret (v := r2) hx hb hr (fun t ht hW => ⟨⟨_, (va_up V d (vp_updL (V d) (u1 * 64 + v1) x), va_up M d (vp_updL (M d) u1 (tbs (M d u1) v1)), va_up R d (R d + fRC (F (u1 * 64 + v1)) (V d (u1 * 64 + v1)) x)), rfl, ⟨u1, v1, hu, hv, rfl, rfl, er, c_73, (by rw [← er]; exact c_80), rfl, rfl, rfl⟩, atP hP ht⟩, hS.F ht⟩) hS.2.2 d_X_store_129
      · obtain ⟨sa, hsa⟩ := hE.2.2.2.1
        exact thr hx hb hl0 hts hown hE hS (hl.1.trans hml.symm) htab hlocks (by decide +kernel) kk_X_51 kz_IllegalStateException kx_ISE kg_ISE hsa d_X_store_83 d_X_store_86 d_X_store_87 d_X_store_89 d_X_store_92 (Nat.le_of_ble_eq_true rfl) (Nat.le_of_ble_eq_true rfl) (Nat.le_of_ble_eq_true rfl) (Nat.le_of_ble_eq_true rfl) (Nat.le_of_ble_eq_true rfl) (Nat.le_of_ble_eq_true rfl) (fun t hv9 hF hq => ⟨(), trivial, ⟨Or.inr ⟨rfl, u1, v1, hu, hv, rfl, rfl, Or.inr (fun q => c_80 (by rw [er]; exact q))⟩, kept_P hP hq⟩, hF⟩)
  · refine lv_iincW (v := (r2) + 2100) (lv' := [(12, .int ((r2) + 2100)), (10, .long (V d (u1 * 64 + v1))), (8, .long (F (u1 * 64 + v1))), (7, .int (nI (u1 * 64 + v1))), (6, .ref (a (3 + d))), (0, .ref (a 0)), (1, .int (nI u1)), (2, .int (nI v1)), (3, .long x), (5, .int gas)]) hx hb d_X_store_62 hl (k := 0) rfl rfl (by decide) rfl (fun ls hl => ?_)
    have er : ((r2) + 2100 : Int32) = fWC (F (u1 * 64 + v1)) (V d (u1 * 64 + v1)) x + (if tb (M d u1) v1 then 0 else 2100) := by
      rw [hr3] at c_59
      cases hq : tb (M d u1) v1 <;> rw [hq] at c_59 <;> first | (rw [hr2]; rfl) | (rw [hr2, if_pos rfl]; exact (Int32.add_zero _).symm) | exact absurd rfl c_59 | exact absurd c_59 (by decide)
    refine lv_iload hx hb d_X_store_68 (lv_at hl 9 rfl) ?_
    refine lv_sipush (v := 2300) hx hb d_X_store_70 (by decide) ?_
    refine lv_icmp_le (tgt := 83) hx hb d_X_store_73 (by decide) (fun c_73 => ?_) (fun c_73 => ?_)
    · obtain ⟨sa, hsa⟩ := hE.2.2.2.1
      exact thr hx hb hl0 hts hown hE hS (hl.1.trans hml.symm) htab hlocks (by decide +kernel) kk_X_51 kz_IllegalStateException kx_ISE kg_ISE hsa d_X_store_83 d_X_store_86 d_X_store_87 d_X_store_89 d_X_store_92 (Nat.le_of_ble_eq_true rfl) (Nat.le_of_ble_eq_true rfl) (Nat.le_of_ble_eq_true rfl) (Nat.le_of_ble_eq_true rfl) (Nat.le_of_ble_eq_true rfl) (Nat.le_of_ble_eq_true rfl) (fun t hv9 hF hq => ⟨(), trivial, ⟨Or.inr ⟨rfl, u1, v1, hu, hv, rfl, rfl, Or.inl c_73⟩, kept_P hP hq⟩, hF⟩)
    · refine lv_iload hx hb d_X_store_76 (lv_at hl 0 rfl) ?_
      refine lv_iload hx hb d_X_store_78 (lv_at hl 9 rfl) ?_
      refine lv_icmp_le (tgt := 93) hx hb d_X_store_80 (by decide) (fun c_80 => ?_) (fun c_80 => ?_)
      · refine lv_aload hx hb d_X_store_93 (lv_at hl 4 rfl) ?_
        refine lv_iload_n hx hb d_X_store_95 rfl (lv_at hl 6 rfl) ?_
        refine lv_iload_n hx hb d_X_store_96 rfl (lv_at hl 7 rfl) ?_
        refine va_callv (va_runVN (As := [.int (nI u1), .int (nI v1)]) (rest := []) (C := RS) (host := RX) ⟨hx, hb, hml, hown, hts⟩ (m_S_mark l D k a (nI d) F V M R d hd31 u1 v1 hu hv _) ⟨va_cnB 2 hts (TB_c kc_S_mark) rfl rfl rfl (hE.1 _ nl_X_64) (hts _ kz_S) (by decide +kernel) ⟨Nat.le_of_ble_eq_true rfl, Nat.le_of_ble_eq_true rfl⟩, hts _ ki_S_mark, hts _ ks_S_mark⟩ ⟨PW.bl, va_recv (q := (RS, TS, 3)) hK hP rfl (wx_s hd31), fun U hU hW => ⟨rfl, PW.go hK hP hD hS hA hE hU hW⟩⟩ rfl rfl hl.1 rfl (lv_room (Nat.le_of_ble_eq_true rfl)) d_X_store_97 ⟨Nat.le_of_ble_eq_true rfl, Nat.le_of_ble_eq_true rfl⟩) hS (fun q _ h => cut_F hD hS hA q h) (cut_F hD hS hA) (fun uu t H1 locs1 ht hvm hpost hB hz hk hS => ?_)
        rw [ht] at hB
        subst hpost
        have hP := hB
        have hD := hD.ad (wx_ad : (WX k a (nI d) F V (va_up M d (vp_updL (M d) u1 (tbs (M d u1) v1))) R).map Prod.fst = _)
        generalize H1 = H at hP hS ⊢
        generalize locs1 = locs at hS ⊢
        refine lv_aload hx hb d_X_store_100 (lv_at hl 4 rfl) ?_
        refine lv_dup hx hb d_X_store_102 rfl ?_
        refine va_getN (D := D) (host := RX) (ci := 0) (v := .int (R d)) (C := RS) (T := TS) (N := 3) hx hb hts kin_S hown hK hP (d + 3) (wx_s hd31) rfl 2 (by decide) (va_Nw.use rfl (hE.1 _ nf_X_77)) (fun _ h9 => h9) rfl d_X_store_103 ?_
        refine lv_lload hx hb d_X_store_106 (lv_at hl 2 rfl) ?_
        refine lv_lload hx hb d_X_store_108 (lv_at hl 1 rfl) ?_
        refine lv_lload_n hx hb d_X_store_110 rfl (lv_at hl 8 rfl) ?_
        refine vp_callSi (W.runS (As := [.long (F (u1 * 64 + v1)), .long (V d (u1 * 64 + v1)), .long x]) (rest := [.int (R d), .ref (a (3 + d))]) ⟨hx, hb, hml, hown, hts⟩ (m_X_refundChange l (F (u1 * 64 + v1)) (V d (u1 * 64 + v1)) x) (va_cwS 3 hts (TB_g3 kl_X_80 kt_X_refundChange kz_X (TB_c kc_X_refundChange)) rfl rfl rfl (by decide +kernel) ⟨Nat.le_of_ble_eq_true rfl, Nat.le_of_ble_eq_true rfl⟩) preEq rfl rfl hl.1 rfl (lv_room (Nat.le_of_ble_eq_true rfl)) d_X_store_111 ⟨Nat.le_of_ble_eq_true rfl, Nat.le_of_ble_eq_true rfl⟩) (fun r4 hr4 => ?_)
        refine lv_iadd hx hb d_X_store_114 ?_
        refine va_putN (D := D) (host := RX) (ci := 0) (v := .int ((R d) + (r4))) (ty := .int) (C := RS) (T := TS) (N := 3) hx hb hts kin_S tS tyS nmS hown hK hP hD hS (d + 3) (wx_s hd31) rfl 2 (by decide) (va_Nw.use rfl (hE.1 _ nf_X_77)) (fun _ h9 => h9) rfl (by decide +kernel) rfl rfl (Nat.le_of_ble_eq_true rfl) d_X_store_115 (fun H locs hP hD hS => ?_)
        have hP := (congrArg (fun w => va_P D wCl w H) (wx_setR hd31)).mp hP
        have hD := (congrArg (fun w => va_D A w) (wx_setR hd31)).mp hD
        have hP : va_P D wCl (WX k a (nI d) F V (va_up M d (vp_updL (M d) u1 (tbs (M d u1) v1))) (va_up R d ((R d) + (r4)))) H := hP
        have hD : va_D A (WX k a (nI d) F V (va_up M d (vp_updL (M d) u1 (tbs (M d u1) v1))) (va_up R d ((R d) + (r4)))) := hD
        refine lv_aload hx hb d_X_store_118 (lv_at hl 4 rfl) ?_
        refine va_getN (D := D) (host := RX) (ci := 0) (v := .ref (a (34 + d))) (C := RS) (T := TS) (N := 3) hx hb hts kin_S hown hK hP (d + 3) (wx_s hd31) rfl 0 (by decide) (va_Nw.use rfl (hE.1 _ nf_X_31)) (fun _ h9 => h9) rfl d_X_store_120 ?_
        refine lv_iload hx hb d_X_store_123 (lv_at hl 3 rfl) ?_
        refine lv_lload_n hx hb d_X_store_125 rfl (lv_at hl 8 rfl) ?_
        refine va_last hx hb hK hP hD hS (d + 34) 0 (wx_v hd31) rfl (vp_in_nI hc (by decide)) d_X_store_126 (fun H locs hP hD hS => ?_)
        have hP := (congrArg (fun w => va_P D wCl w H) (wx_setV hd31)).mp hP
        have hD := (congrArg (fun w => va_D A w) (wx_setV hd31)).mp hD
        have hP : va_P D wCl (WX k a (nI d) F (va_up V d (vp_updL (V d) ((nI (u1 * 64 + v1)).toNatClampNeg) x)) (va_up M d (vp_updL (M d) u1 (tbs (M d u1) v1))) (va_up R d ((R d) + (r4)))) H := hP
        have hD : va_D A (WX k a (nI d) F (va_up V d (vp_updL (V d) ((nI (u1 * 64 + v1)).toNatClampNeg) x)) (va_up M d (vp_updL (M d) u1 (tbs (M d u1) v1))) (va_up R d ((R d) + (r4)))) := hD
        rw [nI_clamp (show u1 * 64 + v1 < 2 ^ 31 by omega), hr4] at hP
        refine lv_iload hx hb d_X_store_127 (lv_at hl 0 rfl) ?_
        refine W.widen (k := 2) (n := 12) (by omega) (by omega) ?_
        refine vx_ret ?_
        exact W.iret (v := (r2) + 2100) hx hb hr (fun t ht hW => ⟨⟨_, (va_up V d (vp_updL (V d) (u1 * 64 + v1) x), va_up M d (vp_updL (M d) u1 (tbs (M d u1) v1)), va_up R d (R d + fRC (F (u1 * 64 + v1)) (V d (u1 * 64 + v1)) x)), rfl, ⟨u1, v1, hu, hv, rfl, rfl, er, c_73, (by rw [← er]; exact c_80), rfl, rfl, rfl⟩, atP hP ht⟩, hS.F ht⟩) hS.2.2 d_X_store_129
      · obtain ⟨sa, hsa⟩ := hE.2.2.2.1
        exact thr hx hb hl0 hts hown hE hS (hl.1.trans hml.symm) htab hlocks (by decide +kernel) kk_X_51 kz_IllegalStateException kx_ISE kg_ISE hsa d_X_store_83 d_X_store_86 d_X_store_87 d_X_store_89 d_X_store_92 (Nat.le_of_ble_eq_true rfl) (Nat.le_of_ble_eq_true rfl) (Nat.le_of_ble_eq_true rfl) (Nat.le_of_ble_eq_true rfl) (Nat.le_of_ble_eq_true rfl) (Nat.le_of_ble_eq_true rfl) (fun t hv9 hF hq => ⟨(), trivial, ⟨Or.inr ⟨rfl, u1, v1, hu, hv, rfl, rfl, Or.inr (fun q => c_80 (by rw [er]; exact q))⟩, kept_P hP hq⟩, hF⟩)
