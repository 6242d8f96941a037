/-! the law from its entry -/
theorem lw_str {b0 : Nat} {s : State} {i : Nat} {tx : String} (h1 : (Cond.stringRef RX i tx).before #[Value.ref b0] s = true) (h2 : (Cond.exactly (.string RX i) "java/lang/String").before #[Value.ref b0] s = true) : ∃ q, vk_R RX i tx q s := by
  obtain ⟨q, _, _, _, q1, -⟩ := Cond.exactly_spec h2
  exact ⟨q, vk_R.of h1 q1⟩
theorem lw_arr {b0 : Nat} {s : State} {ty : FieldType} (h : (Cond.arrayClass ty).before #[Value.ref b0] s = true) (hra : ∀ cC : ClassId, s.vm.findClass ("[" ++ ty.toString) = some cC → va_RA s cC ty) : ∃ cA, ArrOfT s cA ty ∧ va_RA s cA ty := by
  obtain ⟨cA, kA, comp, h1, h2, h3⟩ := Cond.arrayClass_spec h
  exact ⟨cA, fun n z => ⟨(fun k h => by cases h), kA, h2, comp, h3⟩, hra cA h1⟩
theorem lw_arrO {s : State} {C : String} (h : va_AO C s) : ∃ cA, ArrOfT s cA (.object C) ∧ va_RA s cA (.object C) := by
  obtain ⟨comp, cA, kA, h1, -, h3, h4, h5⟩ := Cond.arrayOver_spec h
  exact ⟨cA, fun n z => ⟨(fun k h => by cases h), kA, h3, comp, h4⟩, kA, comp, h3, h4, h1, h5⟩
theorem lw_arrA {s : State} {t : FieldType} (h : AOA t s) : ∃ cA, ArrOfT s cA (.array t) ∧ va_RA s cA (.array t) := by
  obtain ⟨comp, cA, kA, h1, -, h3, h4, h5⟩ := ao_spec h
  exact ⟨cA, fun n z => ⟨(fun k h => by cases h), kA, h3, comp, h4⟩, h5⟩
theorem RI_0 : RI 0 (fun _ => 0) (fun _ _ => 0) (fun _ _ => 0) (fun _ => 0) (fun _ => 0) (fun _ => 0) (fun _ => false) (fun _ => 0) (fun _ _ => 0) (fun _ _ => false) 0 :=
  ⟨by decide, fun _ _ => rfl, fun _ _ => rfl, fun u v _ _ => (tb_0 v).symm, rfl, fun i h => absurd h (Nat.not_lt_zero i)⟩
theorem lw_env {p : Program} {s : State} {m : MethodId} {meth : Method} {c : Code} {b0 L : Nat} {xs : Nat → Int32} (C0 : lw_At p s m meth c b0 L xs) : EV (fun q : Nat => s.heap.size ≤ q) s := by
  obtain ⟨hx, hb, hr, hml, hown, hts0, hX, hbl, hlocks, hgv⟩ := C0
  have hs := flat_of_before _ hgv
  have hA : ∀ q : Nat, q < s.heap.size → ¬ (fun q : Nat => s.heap.size ≤ q) q := fun q h => Nat.not_le.mpr h
  refine ⟨fun w hw => va_Nw.of (NB_on w hw) (hts0 w (NB_tbl w hw)), lw_str (hts0 (.stringRef RX 46 "too many messages are open") (by decide +kernel)) (hs (.exactly (.string RX 46) "java/lang/String") (by decide +kernel)), lw_str (hts0 (.stringRef RX 53 "no message is open") (by decide +kernel)) (hs (.exactly (.string RX 53) "java/lang/String") (by decide +kernel)), lw_str (hts0 (.stringRef RX 75 "not enough gas") (by decide +kernel)) (hs (.exactly (.string RX 75) "java/lang/String") (by decide +kernel)), lw_str (hts0 (.stringRef RX 88 "what is not 0 to 3") (by decide +kernel)) (hs (.exactly (.string RX 88) "java/lang/String") (by decide +kernel)), lw_str (hts0 (.stringRef RX 91 "no such owner or place") (by decide +kernel)) (hs (.exactly (.string RX 91) "java/lang/String") (by decide +kernel)),
    vx_Zqof (hts0 _ (by decide +kernel)) (hts0 _ (by decide +kernel)) (hs _ (by decide +kernel)) hA, vx_Zqof (hts0 _ (by decide +kernel)) (hts0 _ (by decide +kernel)) (hs _ (by decide +kernel)) hA, va_Nc.of (hs _ (by decide +kernel))⟩
set_option maxHeartbeats 4000000 in
set_option maxRecDepth 100000 in
theorem whole_start {p : Program} {e : Env} {s : State} {m : MethodId} {below : List Frame} {meth : Method} {c : Code} (l : Launch) (hl0 : l.stackTraces = false) {b L : Nat} {xs : Nat → Int32} (hL : L ≤ 3072) (C0 : lw_At p s m meth c b L xs) : W p l e room_1 s m #[Value.ref b] below meth c s.heap [] 0 0 (lw_Z below #[Value.ref b] s) (entryFrame m ([Value.ref b] : List Value).toArray 8) := by
  have hE := lw_env C0
  obtain ⟨hx, hb, hr, hml, hown, hts0, hX, hbl, hlocks, hgv⟩ := id C0
  have hts := TB_in hts0
  have hown : s.vm.findClass RL = some m.cls := hown
  have hA : ∀ q : Nat, s.heap.size ≤ q → (fun q : Nat => s.heap.size ≤ q) q := fun _ h => h
  have hao : va_AO RS s := va_AO.of (hts0 (.arrayOver (.object RS)) (by decide +kernel))
  have hao1 : AOA .long s := hts0 (.arrayOver (.array .long)) (by decide +kernel)
  have hao2 : AOA .boolean s := hts0 (.arrayOver (.array .boolean)) (by decide +kernel)
  obtain ⟨c0, iS0, hKn0⟩ := u_known (C := RS) (T := TS) (N := 3) (n := 3) hts kin_S (hts _ ka_S)
  obtain ⟨c1, iS1, hKn1⟩ := u_known (C := RX) (T := TX) (N := 3) (n := 3) hts kin_X (hts _ ka_X)
  obtain ⟨c2, iS2, hKn2⟩ := u_known (C := RM) (T := TM) (N := 9) (n := 9) hts kin_M (hts _ ka_M)
  obtain ⟨k0, hk0⟩ := lw_arr (hts _ kr_long) (fun _ h => h)
  obtain ⟨k1, hk1⟩ := lw_arrO hao
  obtain ⟨k2, hk2⟩ := lw_arrA hao1
  obtain ⟨k3, hk3⟩ := lw_arrA hao2
  obtain ⟨k4, hk4⟩ := lw_arr (hts _ kr_int) (fun _ h => h)
  obtain ⟨k5, hk5⟩ := lw_arr (hts _ kr_boolean) (fun _ h => h)
  obtain ⟨D, k, hK⟩ : ∃ (D : va_G) (k : Nat → ClassId), va_K D wCl (tyL k) s := by
    refine ⟨(fun i => if i = 0 then c0 else if i = 1 then c1 else c2, fun i => if i = 0 then iS0 else if i = 1 then iS1 else iS2), fun i => if i = 0 then k0 else if i = 1 then k1 else if i = 2 then k2 else if i = 3 then k3 else if i = 4 then k4 else k5, fun i q hq => ?_, fun i q hq => ?_⟩
    · match i, hq with
      | 0, hq => cases hq; exact hKn0
      | 1, hq => cases hq; exact hKn1
      | 2, hq => cases hq; exact hKn2
      | i + 3, hq => simp [wCl] at hq
    · match i, hq with
      | 0, hq => cases hq; exact hk0
      | 1, hq => cases hq; exact hk1
      | 2, hq => cases hq; exact hk2
      | 3, hq => cases hq; exact hk3
      | 4, hq => cases hq; exact hk4
      | 5, hq => cases hq; exact hk5
      | i + 6, hq => simp [tyL] at hq
  have hS : va_S (fun q : Nat => s.heap.size ≤ q) s.heap s.heap [] := va_S.rf
  have hP : va_P D wCl [] s.heap := fun k q h => by simp at h
  have hD : va_D (fun q : Nat => s.heap.size ≤ q) [] := ⟨fun i j p q h => by simp at h, fun k q h => by simp at h⟩
  have hl := lv_entry ([.ref b]) (n := 8) (Nat.le_of_ble_eq_true rfl)
  rw [lg_entry_eq]
  generalize (lg_sl ([.ref b]) ++ List.replicate (8 - (lg_sl ([.ref b])).length) Slot.unset).toArray = ls at hl ⊢
  have hl : lv_has ls 8 [(0, .ref b)] := hl
  refine va_new (ci := 1) (fs := [.null, .null, .int 0]) (C := RX) (T := TX) (N := 3) hx hb hts kin_X tX tyX hown (hts _ kk_L_8) (hts _ ka_X) (hts _ kz_X) hK hP hD hS hA rfl (fun j hj => by rcases (show j = 0 ∨ j = 1 ∨ j = 2 by omega) with rfl | rfl | rfl <;> rfl) (Nat.le_of_ble_eq_true rfl) (Nat.le_of_ble_eq_true rfl) d_L_law_0 (fun x0 H hP hD hS => ?_)
  refine lv_dup hx hb d_L_law_3 rfl ?_
  have hP : va_P D wCl ([] ++ [(x0, .inr (1, [.null, .null, .int 0]))]) H := hP
  have hD : va_D (fun q : Nat => s.heap.size ≤ q) ([] ++ [(x0, .inr (1, [.null, .null, .int 0]))]) := hD
  have hFc := cut_F (last_D hD) hS hA
  refine va_callv (va_runI (As := []) (rest := [.ref x0]) ⟨hx, hb, hml, hown, hts⟩ (m_X_init l D k x0 _) (cwI 0 hts (TB_c kc_X_init) rfl rfl rfl (hts _ kz_X) (hts _ kl_L_43) (hts _ ki_X_init) rfl (by decide +kernel) ⟨Nat.le_of_ble_eq_true rfl, Nat.le_of_ble_eq_true rfl⟩) ⟨fun a U g mk q => ⟨q.1, (PW.bl (av := [.ref x0]) a U g mk ⟨q.1, q.2.1⟩).2, va_AO.moved (u := U) (U := U.calling g mk a) (Vm.Alike.refl U.vm) q.2.2⟩, fun U hU hW => ⟨rfl, PW.go hK (last_P hP) (last_D hD) hS hA hE hU hW, va_AO.moved hW.alike hao⟩⟩ rfl rfl hl.1 rfl (lv_room (Nat.le_of_ble_eq_true rfl)) d_L_law_4 ⟨Nat.le_of_ble_eq_true rfl, Nat.le_of_ble_eq_true rfl⟩) hS (fun q _ h => hFc q h) hFc (fun a t H1 locs1 ht hvm hw hB hz1 hk1 hS => ?_)
  obtain ⟨hB, hBD⟩ := hB
  rw [ht] at hB
  obtain ⟨hP, hD⟩ := cut_G (a := []) hP hD hk1 hFc hB hBD
  generalize H1 = H at hP hS ⊢
  generalize locs1 = locs at hS ⊢
  rw [← hw]
  refine lv_astore_n (lv' := [(1, .ref (a 0)), (0, .ref b)]) hx hb d_L_law_7 rfl hl (by decide) rfl (fun ls hl => ?_)
  have hP : va_P D wCl (WX k a (nI 0) (fun _ => 0) (fun _ _ => 0) (fun _ _ => 0) (fun _ => 0)) H := hP
  have hD : va_D (fun q : Nat => s.heap.size ≤ q) (WX k a (nI 0) (fun _ => 0) (fun _ _ => 0) (fun _ _ => 0) (fun _ => 0)) := hD
  refine va_new (ci := 2) (fs := [.int 0, .null, .null, .null, .null, .null, .null, .int 0, .int 0]) (C := RM) (T := TM) (N := 9) hx hb hts kin_M tM tyM hown (hts _ kk_L_44) (hts _ ka_M) (hts _ kz_M) hK hP hD hS hA rfl (fun j hj => by rcases (show j = 0 ∨ j = 1 ∨ j = 2 ∨ j = 3 ∨ j = 4 ∨ j = 5 ∨ j = 6 ∨ j = 7 ∨ j = 8 by omega) with rfl | rfl | rfl | rfl | rfl | rfl | rfl | rfl | rfl <;> rfl) (Nat.le_of_ble_eq_true rfl) (Nat.le_of_ble_eq_true rfl) d_L_law_8 (fun y0 H hP hD hS => ?_)
  refine lv_dup hx hb d_L_law_11 rfl ?_
  have hFc := cut_F (last_D hD) hS hA
  refine va_callv (va_runI (As := []) (rest := [.ref y0]) ⟨hx, hb, hml, hown, hts⟩ (m_M_init l D k y0 _) (cwI 0 hts (TB_c kc_M_init) rfl rfl rfl (hts _ kz_M) (hts _ kl_L_46) (hts _ ki_M_init) rfl (by decide +kernel) ⟨Nat.le_of_ble_eq_true rfl, Nat.le_of_ble_eq_true rfl⟩) ⟨fun a U g mk q => ⟨q.1, (PW.bl (av := [.ref y0]) a U g mk ⟨q.1, q.2.1⟩).2, AOA.moved (u := U) (U := U.calling g mk a) (Vm.Alike.refl U.vm) q.2.2.1, AOA.moved (u := U) (U := U.calling g mk a) (Vm.Alike.refl U.vm) q.2.2.2⟩, fun U hU hW => ⟨rfl, PW.go hK (last_P hP) (last_D hD) hS hA hE hU hW, AOA.moved hW.alike hao1, AOA.moved hW.alike hao2⟩⟩ rfl rfl hl.1 rfl (lv_room (Nat.le_of_ble_eq_true rfl)) d_L_law_12 ⟨Nat.le_of_ble_eq_true rfl, Nat.le_of_ble_eq_true rfl⟩) hS (fun q _ h => hFc q h) hFc (fun b1 t H1 locs1 ht hvm hw hB hz1 hk1 hS => ?_)
  obtain ⟨hB, hBD⟩ := hB
  rw [ht] at hB
  obtain ⟨hP, hD⟩ := cut_G (a := WX k a (nI 0) (fun _ => 0) (fun _ _ => 0) (fun _ _ => 0) (fun _ => 0)) hP hD hk1 hFc hB hBD
  generalize H1 = H at hP hS ⊢
  generalize locs1 = locs at hS ⊢
  rw [← hw]
  refine lv_astore_n (lv' := [(2, .ref (b1 0)), (1, .ref (a 0)), (0, .ref b)]) hx hb d_L_law_15 rfl hl (by decide) rfl (fun ls hl => ?_)
  refine lv_iconst (v := 1) hx hb d_L_law_16 (by decide) ?_
  refine va_newa (atype := .long) hx hb (hts _ kr_long) (ty := .long) rfl hK hP hD hS hA (N' := 1) (a0 := (1, .inr (.inl (fun _ => 0)))) (fun _ => rfl) (by decide) (by decide) (by decide) (Nat.le_of_ble_eq_true rfl) (Nat.le_of_ble_eq_true rfl) d_L_law_17 (fun q0 cA H hK1 hP hD hS => ?_)
  obtain rfl : cA = k 0 := ra_eq (hK1.2 6 _ rfl).2 (hK1.2 0 _ rfl).2
  refine lv_astore_n (lv' := [(3, .ref q0), (2, .ref (b1 0)), (1, .ref (a 0)), (0, .ref b)]) hx hb d_L_law_19 rfl hl (by decide) rfl (fun ls hl => ?_)
  refine lv_iconst (v := 0) hx hb d_L_law_20 (by decide) ?_
  refine lv_istore (lv' := [(4, .int 0), (3, .ref q0), (2, .ref (b1 0)), (1, .ref (a 0)), (0, .ref b)]) hx hb d_L_law_21 hl (by decide) rfl (fun ls hl => ?_)
  have hP := hP.perm List.perm_append_comm
  have hD := hD.perm List.perm_append_comm
  refine W.widen (k := 166 + 2 * 0) (n := 25186 + 12 * 0) (by omega) (by omega) ?_
  exact law_loop hl0 hL C0 hK hE (c0 := 166) (s0 := 25186) (by omega) (by omega) 513 0 (by omega) (by omega) 0 (fun _ => 0) (fun _ _ => 0) (fun _ _ => 0) (fun _ => 0) 0 0 (fun _ => 0) (fun _ => 0) (fun _ => false) (fun _ => 0) (fun _ _ => 0) (fun _ _ => false) (fun _ => 0) H locs ls RI_0 hP hD hS (lv_sub hl [4, 3, 2, 1, 0] rfl)
