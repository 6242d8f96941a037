/-! the reference: store -/
set_option maxHeartbeats 4000000 in
set_option maxRecDepth 100000 in
theorem m_M_store (l : Launch) (D : va_G) (k : Nat → ClassId) (b : Nat → Nat) (f r d : Int32) (N F : Nat → Int64) (t : Nat → Bool) (KR : Nat → Int32) (K : Nat → Nat → Int64) (T : Nat → Nat → Bool) (o1 p1 : Int32) (x : Int64) (gas : Int32) (sz : Nat) : Met l y_M_store (w_M_store :: TB) rM (va_Pc [.ref (b 0), .int o1, .int p1, .long x, .int gas] (PW D k (WM k b f r d N F (zb t) KR K (fun i => zb (T i))) sz)) (va_Qi (fun (y : Int32) (w : Int32 × Int32 × (Nat → Int64) × (Nat → Bool)) => (¬ okP o1 p1 ∧ w = (1, r, N, t)) ∨ (∃ u v : Nat, u < 4 ∧ v < 64 ∧ o1 = nI u ∧ p1 = nI v ∧ (((gas ≤ 2300 ∨ ¬ fWC (F (u * 64 + v)) (N (u * 64 + v)) x + (if t (u * 64 + v) then 0 else 2100) ≤ gas) ∧ w = (2, r, N, t)) ∨ (¬ gas ≤ 2300 ∧ fWC (F (u * 64 + v)) (N (u * 64 + v)) x + (if t (u * 64 + v) then 0 else 2100) ≤ gas ∧ y = fWC (F (u * 64 + v)) (N (u * 64 + v)) x + (if t (u * 64 + v) then 0 else 2100) ∧ w = (0, r + fRC (F (u * 64 + v)) (N (u * 64 + v)) x, vp_updL N (u * 64 + v) x, va_up t (u * 64 + v) true))))) (fun w t9 => va_P D wCl (WM k b w.1 w.2.1 d w.2.2.1 F (zb w.2.2.2) KR K (fun i => zb (T i))) t9.heap) (va_A (WM k b f r d N F (zb t) KR K (fun i => zb (T i))) sz)) 0 0 (va_A (WM k b f r d N F (zb t) KR K (fun i => zb (T i))) sz) := by
  refine Met.ofW (cc := b_M_store) (maxL := 13) (ret := some .int) (by decide) rfl ?_
  intro p e s m args below meth c s₁ B hml hv
  obtain ⟨rfl, hsz, hP, hK, hD0, hE⟩ := hv
  have hx := B.exec
  have hb := B.bytes
  have hr := B.returns
  have hts0 := atoms_spec (ws := w_M_store :: TB) B.pre
  have hts := fun w (hw : w ∈ TB) => hts0 w (List.mem_cons_of_mem _ hw)
  have hown : s.vm.findClass RM = some m.cls := findClass_of_methodNamed B.named
  have hlocks := B.notSynchronized
  subst hsz
  have hD := hD0.self (sz := s.heap.size)
  generalize hAe : va_A (WM k b f r d N F (zb t) KR K (fun i => zb (T i))) s.heap.size = A at *
  have hA : ∀ q : Nat, s.heap.size ≤ q → A q := fun q h => by rw [← hAe]; exact Or.inr h
  have hS : va_S A s.heap s.heap [] := va_S.rf
  have hl := lv_entry ([.ref (b 0), .int o1, .int p1, .long x, .int gas]) (n := 13) (Nat.le_of_ble_eq_true rfl)
  rw [lg_entry_eq]
  generalize (lg_sl ([.ref (b 0), .int o1, .int p1, .long x, .int gas]) ++ List.replicate (13 - (lg_sl ([.ref (b 0), .int o1, .int p1, .long x, .int gas])).length) Slot.unset).toArray = ls at hl ⊢
  have hl : lv_has ls 13 [(0, .ref (b 0)), (1, .int o1), (2, .int p1), (3, .long x), (5, .int gas)] := hl
  refine lv_aload_n hx hb d_M_store_0 rfl (lv_at hl 0 rfl) ?_
  refine lv_iconst (v := 0) hx hb d_M_store_1 (by decide) ?_
  refine va_put (D := D) (ci := 2) (v := .int 0) (ty := .int) (C := RM) (T := TM) (N := 9) hx hb hts kin_M tM tyM nmM hown hK hP hD hS 0 rfl rfl 0 (by decide) (hts _ kf_M_34) (fun _ h9 => h9) rfl (by decide +kernel) rfl rfl (Nat.le_of_ble_eq_true rfl) d_M_store_2 (fun H locs hP hD hS => ?_)
  have hP : va_P D wCl (WM k b 0 r d N F (zb t) KR K (fun i => zb (T i))) H := hP
  have hD : va_D A (WM k b 0 r d N F (zb t) KR K (fun i => zb (T i))) := hD
  refine lv_aload_n hx hb d_M_store_5 rfl (lv_at hl 0 rfl) ?_
  refine lv_iload_n hx hb d_M_store_6 rfl (lv_at hl 1 rfl) ?_
  refine lv_iload_n hx hb d_M_store_7 rfl (lv_at hl 2 rfl) ?_
  refine vp_callSi (va_runV (As := [.int o1, .int p1]) (rest := []) (C := RM) ⟨hx, hb, hml, hown, hts⟩ (m_M_out l D k b 0 r d N F t KR K T o1 p1 _) (cwV 2 hts (TB_g kl_M_52 ki_M_out ks_M_out kz_M (TB_c kc_M_out)) rfl rfl rfl (by decide +kernel) ⟨Nat.le_of_ble_eq_true rfl, Nat.le_of_ble_eq_true rfl⟩) ⟨PW.bl, va_recv (q := (RM, TM, 9)) (ci := 2) (q0 := 0) hK hP rfl rfl, fun U hU hW => ⟨rfl, PW.go hK hP hD hS hA hE hU hW⟩⟩ rfl rfl hl.1 rfl (lv_room (Nat.le_of_ble_eq_true rfl)) d_M_store_8 ⟨Nat.zero_le _, Nat.zero_le _⟩).run (fun r1 hr1 => ?_)
  refine lv_if_eq (tgt := 20) hx hb d_M_store_11 (by decide) (fun c_11 => ?_) (fun c_11 => ?_)
  · rcases hr1 with ⟨hok, -⟩ | ⟨-, e1⟩
    rotate_left
    · exact absurd (e1.symm.trans c_11) (by decide)
    obtain ⟨u1, v1, hu, hv, rfl, rfl⟩ := hok
    have hc : u1 * 64 + v1 < 256 := by omega
    refine lv_bipush (v := 64) hx hb d_M_store_20 (by decide) ?_
    refine lv_iload_n hx hb d_M_store_22 rfl (lv_at hl 1 rfl) ?_
    refine lv_imul hx hb d_M_store_23 ?_
    refine lv_iload_n hx hb d_M_store_24 rfl (lv_at hl 2 rfl) ?_
    refine lv_iadd hx hb d_M_store_25 ?_
    rw [mi_c u1 v1]
    refine lv_istore (lv' := [(6, .int (nI (u1 * 64 + v1))), (0, .ref (b 0)), (1, .int (nI u1)), (2, .int (nI v1)), (3, .long x), (5, .int gas)]) hx hb d_M_store_26 hl (by decide) rfl (fun ls hl => ?_)
    refine lv_aload_n hx hb d_M_store_28 rfl (lv_at hl 1 rfl) ?_
    refine va_get (D := D) (ci := 2) (v := .ref (b 6)) (C := RM) (T := TM) (N := 9) hx hb hts kin_M hown hK hP 0 rfl rfl 6 (by decide) (hts _ kf_M_30) (fun _ h9 => h9) rfl d_M_store_29 ?_
    refine lv_iload hx hb d_M_store_32 (lv_at hl 0 rfl) ?_
    refine va_zald hx hb hK hP 6 5 rfl rfl (vp_in_nI hc (by decide)) d_M_store_34 ?_
    rw [nI_clamp (show u1 * 64 + v1 < 2 ^ 31 by omega)]
    generalize H = H9 at hP hD hS ⊢
    generalize locs = locs9 at hS ⊢
    generalize hRR : (headSpec (w_M_store :: TB) rM).room = RR
    generalize hQQ : MQ below (va_Qi (fun (y : Int32) (w : Int32 × Int32 × (Nat → Int64) × (Nat → Bool)) => (¬ okP (nI u1) (nI v1) ∧ w = (1, r, N, t)) ∨ (∃ u v : Nat, u < 4 ∧ v < 64 ∧ nI u1 = nI u ∧ nI v1 = nI v ∧ (((gas ≤ 2300 ∨ ¬ fWC (F (u * 64 + v)) (N (u * 64 + v)) x + (if t (u * 64 + v) then 0 else 2100) ≤ gas) ∧ w = (2, r, N, t)) ∨ (¬ gas ≤ 2300 ∧ fWC (F (u * 64 + v)) (N (u * 64 + v)) x + (if t (u * 64 + v) then 0 else 2100) ≤ gas ∧ y = fWC (F (u * 64 + v)) (N (u * 64 + v)) x + (if t (u * 64 + v) then 0 else 2100) ∧ w = (0, r + fRC (F (u * 64 + v)) (N (u * 64 + v)) x, vp_updL N (u * 64 + v) x, va_up t (u * 64 + v) true))))) (fun w t9 => va_P D wCl (WM k b w.1 w.2.1 d w.2.2.1 F (zb w.2.2.2) KR K (fun i => zb (T i))) t9.heap) A) [.ref (b 0), .int (nI u1), .int (nI v1), .long x, .int gas].toArray s 0 0 A = QQ
    have T201 : ∀ (g mo : Int32) (ls : Array Slot), g = fWC (F (u1 * 64 + v1)) (N (u1 * 64 + v1)) x + (if t (u1 * 64 + v1) then 0 else 2100) → mo = fRC (F (u1 * 64 + v1)) (N (u1 * 64 + v1)) x → lv_has ls 13 [(7, .int g), (8, .int mo), (9, .long (F (u1 * 64 + v1))), (11, .long (N (u1 * 64 + v1))), (6, .int (nI (u1 * 64 + v1))), (5, .int gas), (3, .long x), (0, .ref (b 0))] → W p l e RR s m [.ref (b 0), .int (nI u1), .int (nI v1), .long x, .int gas].toArray below meth c H9 locs9 0 0 QQ (F0 m 201 ls []) := by
      intro g mo ls hg hmo hl
      subst hRR hQQ
      refine lv_iload hx hb d_M_store_201 (lv_at hl 5 rfl) ?_
      refine lv_sipush (v := 2300) hx hb d_M_store_203 (by decide) ?_
      refine lv_icmp_le (tgt := 216) hx hb d_M_store_206 (by decide) (fun c_206 => ?_) (fun c_206 => ?_)
      · refine lv_aload_n hx hb d_M_store_216 rfl (lv_at hl 7 rfl) ?_
        refine lv_iconst (v := 2) hx hb d_M_store_217 (by decide) ?_
        refine va_calli (va_runV (As := [.int 2]) (rest := []) (C := RM) ⟨hx, hb, hml, hown, hts⟩ (m_M_fail l D k b 0 r d N F t KR K T 2 _) (cwV 1 hts (TB_g kl_M_48 ki_M_fail ks_M_fail kz_M (TB_c kc_M_fail)) rfl rfl rfl (by decide +kernel) ⟨Nat.le_of_ble_eq_true rfl, Nat.le_of_ble_eq_true rfl⟩) ⟨PW.bl, va_recv (q := (RM, TM, 9)) (ci := 2) (q0 := 0) hK hP rfl rfl, fun U hU hW => ⟨rfl, PW.go hK hP hD hS hA hE hU hW⟩⟩ rfl rfl hl.1 rfl (lv_room (Nat.le_of_ble_eq_true rfl)) d_M_store_218 ⟨Nat.zero_le _, Nat.zero_le _⟩) hS (fun q _ h => cut_F hD hS hA q h) (cut_F hD hS hA) (fun r9 uu t9 H1 locs1 ht hvm hpost hB hz hk hS => ?_)
        rw [ht] at hB
        have hP := hB
        have hD := hD.ad (wm_ad : (WM k b 2 r d N F (zb t) KR K (fun i => zb (T i))).map Prod.fst = _)
        generalize H1 = H at hP hS ⊢
        generalize locs1 = locs at hS ⊢
        subst hpost
        exact W.iret (v := 0) hx hb hr (fun t9 ht hW => ⟨⟨_, (2, r, N, t), rfl, Or.inr ⟨u1, v1, hu, hv, rfl, rfl, Or.inl ⟨Or.inl c_206, rfl⟩⟩, atP hP ht⟩, hS.F ht⟩) hS.2.2 d_M_store_221
      · refine lv_iload hx hb d_M_store_209 (lv_at hl 0 rfl) ?_
        refine lv_iload hx hb d_M_store_211 (lv_at hl 5 rfl) ?_
        refine lv_icmp_le (tgt := 222) hx hb d_M_store_213 (by decide) (fun c_213 => ?_) (fun c_213 => ?_)
        · refine lv_aload_n hx hb d_M_store_222 rfl (lv_at hl 7 rfl) ?_
          refine va_get (D := D) (ci := 2) (v := .ref (b 6)) (C := RM) (T := TM) (N := 9) hx hb hts kin_M hown hK hP 0 rfl rfl 6 (by decide) (hts _ kf_M_30) (fun _ h9 => h9) rfl d_M_store_223 ?_
          refine lv_iload hx hb d_M_store_226 (lv_at hl 4 rfl) ?_
          refine lv_iconst (v := 1) hx hb d_M_store_228 (by decide) ?_
          refine va_zast hx hb hK hP hD hS 6 5 rfl rfl (vp_in_nI hc (by decide)) d_M_store_229 (fun H locs hP hD hS => ?_)
          rw [nI_clamp (show u1 * 64 + v1 < 2 ^ 31 by omega), zb_up t (u1 * 64 + v1) true (x := 1) rfl] at hP hD
          have hP : va_P D wCl (WM k b 0 r d N F (zb (va_up t (u1 * 64 + v1) true)) KR K (fun i => zb (T i))) H := hP
          have hD : va_D A (WM k b 0 r d N F (zb (va_up t (u1 * 64 + v1) true)) KR K (fun i => zb (T i))) := hD
          refine lv_aload_n hx hb d_M_store_230 rfl (lv_at hl 7 rfl) ?_
          refine va_get (D := D) (ci := 2) (v := .ref (b 4)) (C := RM) (T := TM) (N := 9) hx hb hts kin_M hown hK hP 0 rfl rfl 4 (by decide) (hts _ kf_M_23) (fun _ h9 => h9) rfl d_M_store_231 ?_
          refine lv_iload hx hb d_M_store_234 (lv_at hl 4 rfl) ?_
          refine lv_lload_n hx hb d_M_store_236 rfl (lv_at hl 6 rfl) ?_
          refine va_last hx hb hK hP hD hS 4 0 rfl rfl (vp_in_nI hc (by decide)) d_M_store_237 (fun H locs hP hD hS => ?_)
          rw [nI_clamp (show u1 * 64 + v1 < 2 ^ 31 by omega)] at hP hD
          have hP : va_P D wCl (WM k b 0 r d (vp_updL N (u1 * 64 + v1) x) F (zb (va_up t (u1 * 64 + v1) true)) KR K (fun i => zb (T i))) H := hP
          have hD : va_D A (WM k b 0 r d (vp_updL N (u1 * 64 + v1) x) F (zb (va_up t (u1 * 64 + v1) true)) KR K (fun i => zb (T i))) := hD
          refine lv_aload_n hx hb d_M_store_238 rfl (lv_at hl 7 rfl) ?_
          refine lv_dup hx hb d_M_store_239 rfl ?_
          refine va_get (D := D) (ci := 2) (v := .int r) (C := RM) (T := TM) (N := 9) hx hb hts kin_M hown hK hP 0 rfl rfl 7 (by decide) (hts _ kf_M_38) (fun _ h9 => h9) rfl d_M_store_240 ?_
          refine lv_iload hx hb d_M_store_243 (lv_at hl 1 rfl) ?_
          refine lv_iadd hx hb d_M_store_245 ?_
          rw [hmo]
          refine va_put (D := D) (ci := 2) (v := .int (r + fRC (F (u1 * 64 + v1)) (N (u1 * 64 + v1)) x)) (ty := .int) (C := RM) (T := TM) (N := 9) hx hb hts kin_M tM tyM nmM hown hK hP hD hS 0 rfl rfl 7 (by decide) (hts _ kf_M_38) (fun _ h9 => h9) rfl (by decide +kernel) rfl rfl (Nat.le_of_ble_eq_true rfl) d_M_store_246 (fun H locs hP hD hS => ?_)
          have hP : va_P D wCl (WM k b 0 (r + fRC (F (u1 * 64 + v1)) (N (u1 * 64 + v1)) x) d (vp_updL N (u1 * 64 + v1) x) F (zb (va_up t (u1 * 64 + v1) true)) KR K (fun i => zb (T i))) H := hP
          have hD : va_D A (WM k b 0 (r + fRC (F (u1 * 64 + v1)) (N (u1 * 64 + v1)) x) d (vp_updL N (u1 * 64 + v1) x) F (zb (va_up t (u1 * 64 + v1) true)) KR K (fun i => zb (T i))) := hD
          refine lv_iload hx hb d_M_store_249 (lv_at hl 0 rfl) ?_
          exact W.iret (v := g) hx hb hr (fun t9 ht hW => ⟨⟨_, (0, r + fRC (F (u1 * 64 + v1)) (N (u1 * 64 + v1)) x, vp_updL N (u1 * 64 + v1) x, va_up t (u1 * 64 + v1) true), rfl, Or.inr ⟨u1, v1, hu, hv, rfl, rfl, Or.inr ⟨c_206, (by rw [← hg]; exact c_213), hg, rfl⟩⟩, atP hP ht⟩, hS.F ht⟩) hS.2.2 d_M_store_251
        · refine lv_aload_n hx hb d_M_store_216 rfl (lv_at hl 7 rfl) ?_
          refine lv_iconst (v := 2) hx hb d_M_store_217 (by decide) ?_
          refine va_calli (va_runV (As := [.int 2]) (rest := []) (C := RM) ⟨hx, hb, hml, hown, hts⟩ (m_M_fail l D k b 0 r d N F t KR K T 2 _) (cwV 1 hts (TB_g kl_M_48 ki_M_fail ks_M_fail kz_M (TB_c kc_M_fail)) rfl rfl rfl (by decide +kernel) ⟨Nat.le_of_ble_eq_true rfl, Nat.le_of_ble_eq_true rfl⟩) ⟨PW.bl, va_recv (q := (RM, TM, 9)) (ci := 2) (q0 := 0) hK hP rfl rfl, fun U hU hW => ⟨rfl, PW.go hK hP hD hS hA hE hU hW⟩⟩ rfl rfl hl.1 rfl (lv_room (Nat.le_of_ble_eq_true rfl)) d_M_store_218 ⟨Nat.zero_le _, Nat.zero_le _⟩) hS (fun q _ h => cut_F hD hS hA q h) (cut_F hD hS hA) (fun r9 uu t9 H1 locs1 ht hvm hpost hB hz hk hS => ?_)
          rw [ht] at hB
          have hP := hB
          have hD := hD.ad (wm_ad : (WM k b 2 r d N F (zb t) KR K (fun i => zb (T i))).map Prod.fst = _)
          generalize H1 = H at hP hS ⊢
          generalize locs1 = locs at hS ⊢
          subst hpost
          exact W.iret (v := 0) hx hb hr (fun t9 ht hW => ⟨⟨_, (2, r, N, t), rfl, Or.inr ⟨u1, v1, hu, hv, rfl, rfl, Or.inl ⟨Or.inr (fun q => c_213 (by rw [hg]; exact q)), rfl⟩⟩, atP hP ht⟩, hS.F ht⟩) hS.2.2 d_M_store_221
    have T45 : ∀ (g0 : Int32) (ls : Array Slot), g0 = (if t (u1 * 64 + v1) then 0 else 2100) → lv_has ls 13 [(6, .int (nI (u1 * 64 + v1))), (0, .ref (b 0)), (1, .int (nI u1)), (2, .int (nI v1)), (3, .long x), (5, .int gas)] → W p l e RR s m [.ref (b 0), .int (nI u1), .int (nI v1), .long x, .int gas].toArray below meth c H9 locs9 0 0 QQ (F0 m 45 ls [.int g0]) := by
      intro g0 ls hg0 hl
      refine lv_istore (lv' := [(7, .int g0), (6, .int (nI (u1 * 64 + v1))), (0, .ref (b 0)), (1, .int (nI u1)), (2, .int (nI v1)), (3, .long x), (5, .int gas)]) hx hb d_M_store_45 hl (by decide) rfl (fun ls hl => ?_)
      refine lv_iconst (v := 0) hx hb d_M_store_47 (by decide) ?_
      refine lv_istore (lv' := [(8, .int 0), (7, .int g0), (6, .int (nI (u1 * 64 + v1))), (0, .ref (b 0)), (1, .int (nI u1)), (2, .int (nI v1)), (3, .long x), (5, .int gas)]) hx hb d_M_store_48 hl (by decide) rfl (fun ls hl => ?_)
      refine lv_aload_n hx hb d_M_store_50 rfl (lv_at hl 3 rfl) ?_
      refine va_get (D := D) (ci := 2) (v := .ref (b 5)) (C := RM) (T := TM) (N := 9) hx hb hts kin_M hown hK hP 0 rfl rfl 5 (by decide) (hts _ kf_M_27) (fun _ h9 => h9) rfl d_M_store_51 ?_
      refine lv_iload hx hb d_M_store_54 (lv_at hl 2 rfl) ?_
      refine va_lald hx hb hK hP 5 0 rfl rfl (vp_in_nI hc (by decide)) d_M_store_56 ?_
      rw [nI_clamp (show u1 * 64 + v1 < 2 ^ 31 by omega)]
      refine lv_lstore (lv' := [(9, .long (F (u1 * 64 + v1))), (8, .int 0), (7, .int g0), (6, .int (nI (u1 * 64 + v1))), (0, .ref (b 0)), (1, .int (nI u1)), (2, .int (nI v1)), (3, .long x), (5, .int gas)]) hx hb d_M_store_57 hl (by decide) rfl (fun ls hl => ?_)
      refine lv_aload_n hx hb d_M_store_59 rfl (lv_at hl 4 rfl) ?_
      refine va_get (D := D) (ci := 2) (v := .ref (b 4)) (C := RM) (T := TM) (N := 9) hx hb hts kin_M hown hK hP 0 rfl rfl 4 (by decide) (hts _ kf_M_23) (fun _ h9 => h9) rfl d_M_store_60 ?_
      refine lv_iload hx hb d_M_store_63 (lv_at hl 3 rfl) ?_
      refine va_lald hx hb hK hP 4 0 rfl rfl (vp_in_nI hc (by decide)) d_M_store_65 ?_
      rw [nI_clamp (show u1 * 64 + v1 < 2 ^ 31 by omega)]
      refine lv_lstore (lv' := [(11, .long (N (u1 * 64 + v1))), (9, .long (F (u1 * 64 + v1))), (8, .int 0), (7, .int g0), (6, .int (nI (u1 * 64 + v1))), (0, .ref (b 0)), (1, .int (nI u1)), (2, .int (nI v1)), (3, .long x), (5, .int gas)]) hx hb d_M_store_66 hl (by decide) rfl (fun ls hl => ?_)
      refine lv_lload_n hx hb d_M_store_68 rfl (lv_at hl 8 rfl) ?_
      refine lv_lload hx hb d_M_store_69 (lv_at hl 0 rfl) ?_
      refine W.lcmp hx hb d_M_store_71 ?_
      refine lv_if_ne (tgt := 81) hx hb d_M_store_72 (by decide) (fun c_72 => ?_) (fun c_72 => ?_)
      · have c_72 : ¬ x = N (u1 * 64 + v1) := fun q => c_72 ((lg_cmp_eq _ _).mpr q)
        refine lv_lload hx hb d_M_store_81 (lv_at hl 1 rfl) ?_
        refine lv_lload hx hb d_M_store_83 (lv_at hl 0 rfl) ?_
        refine W.lcmp hx hb d_M_store_85 ?_
        refine lv_if_ne (tgt := 131) hx hb d_M_store_86 (by decide) (fun c_86 => ?_) (fun c_86 => ?_)
        · have c_86 : ¬ F (u1 * 64 + v1) = N (u1 * 64 + v1) := fun q => c_86 ((lg_cmp_eq _ _).mpr q)
          refine lv_iinc (v := (g0) + 100) (lv' := [(7, .int ((g0) + 100)), (11, .long (N (u1 * 64 + v1))), (9, .long (F (u1 * 64 + v1))), (8, .int 0), (6, .int (nI (u1 * 64 + v1))), (0, .ref (b 0)), (1, .int (nI u1)), (2, .int (nI v1)), (3, .long x), (5, .int gas)]) hx hb d_M_store_131 hl (k := 3) rfl rfl (by decide) rfl (fun ls hl => ?_)
          refine lv_lload hx hb d_M_store_134 (lv_at hl 2 rfl) ?_
          refine lv_lconst (v := 0) hx hb d_M_store_136 (by decide) ?_
          refine W.lcmp hx hb d_M_store_137 ?_
          refine lv_if_eq (tgt := 154) hx hb d_M_store_138 (by decide) (fun c_138 => ?_) (fun c_138 => ?_)
          · have c_138 : F (u1 * 64 + v1) = 0 := (lg_cmp_eq _ _).mp c_138
            refine lv_lload hx hb d_M_store_154 (lv_at hl 2 rfl) ?_
            refine lv_lconst (v := 0) hx hb d_M_store_156 (by decide) ?_
            refine W.lcmp hx hb d_M_store_157 ?_
            refine lv_if_eq (tgt := 173) hx hb d_M_store_158 (by decide) (fun c_158 => ?_) (fun c_158 => ?_)
            · have c_158 : F (u1 * 64 + v1) = 0 := (lg_cmp_eq _ _).mp c_158
              refine lv_lload hx hb d_M_store_173 (lv_at hl 2 rfl) ?_
              refine lv_lload_n hx hb d_M_store_175 rfl (lv_at hl 8 rfl) ?_
              refine W.lcmp hx hb d_M_store_176 ?_
              refine lv_if_ne (tgt := 201) hx hb d_M_store_177 (by decide) (fun c_177 => ?_) (fun c_177 => ?_)
              · have c_177 : ¬ F (u1 * 64 + v1) = x := fun q => c_177 ((lg_cmp_eq _ _).mpr q)
                refine T201 ((g0) + 100) (0) ls ?_ ?_ (lv_sub hl [0, 3, 2, 1, 4, 9, 8, 5] rfl)
                · rw [← hg0]; unfold fWC; (repeat' split) <;> first | contradiction | exact Int32.add_comm _ _
                · unfold fRC fCC fRS; (repeat' split) <;> first | contradiction | rfl | exact absurd (Eq.trans ‹x = 0› (Eq.trans (Eq.symm ‹F (u1 * 64 + v1) = 0›) ‹F (u1 * 64 + v1) = N (u1 * 64 + v1)›)) c_72
              · have c_177 : F (u1 * 64 + v1) = x := (lg_cmp_eq _ _).mp c_177
                refine lv_iload hx hb d_M_store_180 (lv_at hl 3 rfl) ?_
                refine lv_lload hx hb d_M_store_182 (lv_at hl 2 rfl) ?_
                refine lv_lconst (v := 0) hx hb d_M_store_184 (by decide) ?_
                refine W.lcmp hx hb d_M_store_185 ?_
                refine lv_if_ne (tgt := 195) hx hb d_M_store_186 (by decide) (fun c_186 => ?_) (fun c_186 => ?_)
                · have c_186 : ¬ F (u1 * 64 + v1) = 0 := fun q => c_186 ((lg_cmp_eq _ _).mpr q)
                  exact absurd c_138 c_186
                · have c_186 : F (u1 * 64 + v1) = 0 := (lg_cmp_eq _ _).mp c_186
                  refine lv_sipush (v := 19900) hx hb d_M_store_189 (by decide) ?_
                  refine lv_goto (tgt := 198) hx hb d_M_store_192 (by decide) ?_
                  refine lv_iadd hx hb d_M_store_198 ?_
                  refine lv_istore (lv' := [(8, .int ((0) + (19900))), (7, .int ((g0) + 100)), (11, .long (N (u1 * 64 + v1))), (9, .long (F (u1 * 64 + v1))), (6, .int (nI (u1 * 64 + v1))), (0, .ref (b 0)), (1, .int (nI u1)), (2, .int (nI v1)), (3, .long x), (5, .int gas)]) hx hb d_M_store_199 hl (by decide) rfl (fun ls hl => ?_)
                  refine T201 ((g0) + 100) ((0) + (19900)) ls ?_ ?_ (lv_sub hl [1, 0, 3, 2, 4, 9, 8, 5] rfl)
                  · rw [← hg0]; unfold fWC; (repeat' split) <;> first | contradiction | exact Int32.add_comm _ _
                  · unfold fRC fCC fRS; (repeat' split) <;> first | contradiction | rfl | exact absurd (Eq.trans ‹x = 0› (Eq.trans (Eq.symm ‹F (u1 * 64 + v1) = 0›) ‹F (u1 * 64 + v1) = N (u1 * 64 + v1)›)) c_72
            · have c_158 : ¬ F (u1 * 64 + v1) = 0 := fun q => c_158 ((lg_cmp_eq _ _).mpr q)
              exact absurd c_138 c_158
          · have c_138 : ¬ F (u1 * 64 + v1) = 0 := fun q => c_138 ((lg_cmp_eq _ _).mpr q)
            refine lv_lload hx hb d_M_store_141 (lv_at hl 1 rfl) ?_
            refine lv_lconst (v := 0) hx hb d_M_store_143 (by decide) ?_
            refine W.lcmp hx hb d_M_store_144 ?_
            refine lv_if_ne (tgt := 154) hx hb d_M_store_145 (by decide) (fun c_145 => ?_) (fun c_145 => ?_)
            · have c_145 : ¬ N (u1 * 64 + v1) = 0 := fun q => c_145 ((lg_cmp_eq _ _).mpr q)
              refine lv_lload hx hb d_M_store_154 (lv_at hl 2 rfl) ?_
              refine lv_lconst (v := 0) hx hb d_M_store_156 (by decide) ?_
              refine W.lcmp hx hb d_M_store_157 ?_
              refine lv_if_eq (tgt := 173) hx hb d_M_store_158 (by decide) (fun c_158 => ?_) (fun c_158 => ?_)
              · have c_158 : F (u1 * 64 + v1) = 0 := (lg_cmp_eq _ _).mp c_158
                exact absurd c_158 c_138
              · have c_158 : ¬ F (u1 * 64 + v1) = 0 := fun q => c_158 ((lg_cmp_eq _ _).mpr q)
                refine lv_lload_n hx hb d_M_store_161 rfl (lv_at hl 8 rfl) ?_
                refine lv_lconst (v := 0) hx hb d_M_store_162 (by decide) ?_
                refine W.lcmp hx hb d_M_store_163 ?_
                refine lv_if_ne (tgt := 173) hx hb d_M_store_164 (by decide) (fun c_164 => ?_) (fun c_164 => ?_)
                · have c_164 : ¬ x = 0 := fun q => c_164 ((lg_cmp_eq _ _).mpr q)
                  refine lv_lload hx hb d_M_store_173 (lv_at hl 2 rfl) ?_
                  refine lv_lload_n hx hb d_M_store_175 rfl (lv_at hl 8 rfl) ?_
                  refine W.lcmp hx hb d_M_store_176 ?_
                  refine lv_if_ne (tgt := 201) hx hb d_M_store_177 (by decide) (fun c_177 => ?_) (fun c_177 => ?_)
                  · have c_177 : ¬ F (u1 * 64 + v1) = x := fun q => c_177 ((lg_cmp_eq _ _).mpr q)
                    refine T201 ((g0) + 100) (0) ls ?_ ?_ (lv_sub hl [0, 3, 2, 1, 4, 9, 8, 5] rfl)
                    · rw [← hg0]; unfold fWC; (repeat' split) <;> first | contradiction | exact Int32.add_comm _ _
                    · unfold fRC fCC fRS; (repeat' split) <;> first | contradiction | rfl | exact absurd (Eq.trans ‹x = 0› (Eq.trans (Eq.symm ‹F (u1 * 64 + v1) = 0›) ‹F (u1 * 64 + v1) = N (u1 * 64 + v1)›)) c_72
                  · have c_177 : F (u1 * 64 + v1) = x := (lg_cmp_eq _ _).mp c_177
                    refine lv_iload hx hb d_M_store_180 (lv_at hl 3 rfl) ?_
                    refine lv_lload hx hb d_M_store_182 (lv_at hl 2 rfl) ?_
                    refine lv_lconst (v := 0) hx hb d_M_store_184 (by decide) ?_
                    refine W.lcmp hx hb d_M_store_185 ?_
                    refine lv_if_ne (tgt := 195) hx hb d_M_store_186 (by decide) (fun c_186 => ?_) (fun c_186 => ?_)
                    · have c_186 : ¬ F (u1 * 64 + v1) = 0 := fun q => c_186 ((lg_cmp_eq _ _).mpr q)
                      refine lv_sipush (v := 2800) hx hb d_M_store_195 (by decide) ?_
                      refine lv_iadd hx hb d_M_store_198 ?_
                      refine lv_istore (lv' := [(8, .int ((0) + (2800))), (7, .int ((g0) + 100)), (11, .long (N (u1 * 64 + v1))), (9, .long (F (u1 * 64 + v1))), (6, .int (nI (u1 * 64 + v1))), (0, .ref (b 0)), (1, .int (nI u1)), (2, .int (nI v1)), (3, .long x), (5, .int gas)]) hx hb d_M_store_199 hl (by decide) rfl (fun ls hl => ?_)
                      refine T201 ((g0) + 100) ((0) + (2800)) ls ?_ ?_ (lv_sub hl [1, 0, 3, 2, 4, 9, 8, 5] rfl)
                      · rw [← hg0]; unfold fWC; (repeat' split) <;> first | contradiction | exact Int32.add_comm _ _
                      · unfold fRC fCC fRS; (repeat' split) <;> first | contradiction | rfl | exact absurd (Eq.trans ‹x = 0› (Eq.trans (Eq.symm ‹F (u1 * 64 + v1) = 0›) ‹F (u1 * 64 + v1) = N (u1 * 64 + v1)›)) c_72
                    · have c_186 : F (u1 * 64 + v1) = 0 := (lg_cmp_eq _ _).mp c_186
                      exact absurd c_186 c_138
                · have c_164 : x = 0 := (lg_cmp_eq _ _).mp c_164
                  refine lv_iincW (v := (0) + 15000) (lv' := [(8, .int ((0) + 15000)), (7, .int ((g0) + 100)), (11, .long (N (u1 * 64 + v1))), (9, .long (F (u1 * 64 + v1))), (6, .int (nI (u1 * 64 + v1))), (0, .ref (b 0)), (1, .int (nI u1)), (2, .int (nI v1)), (3, .long x), (5, .int gas)]) hx hb d_M_store_167 hl (k := 3) rfl rfl (by decide) rfl (fun ls hl => ?_)
                  refine lv_lload hx hb d_M_store_173 (lv_at hl 3 rfl) ?_
                  refine lv_lload_n hx hb d_M_store_175 rfl (lv_at hl 8 rfl) ?_
                  refine W.lcmp hx hb d_M_store_176 ?_
                  refine lv_if_ne (tgt := 201) hx hb d_M_store_177 (by decide) (fun c_177 => ?_) (fun c_177 => ?_)
                  · have c_177 : ¬ F (u1 * 64 + v1) = x := fun q => c_177 ((lg_cmp_eq _ _).mpr q)
                    refine T201 ((g0) + 100) ((0) + 15000) ls ?_ ?_ (lv_sub hl [1, 0, 3, 2, 4, 9, 8, 5] rfl)
                    · rw [← hg0]; unfold fWC; (repeat' split) <;> first | contradiction | exact Int32.add_comm _ _
                    · unfold fRC fCC fRS; (repeat' split) <;> first | contradiction | rfl | exact absurd (Eq.trans ‹x = 0› (Eq.trans (Eq.symm ‹F (u1 * 64 + v1) = 0›) ‹F (u1 * 64 + v1) = N (u1 * 64 + v1)›)) c_72
                  · have c_177 : F (u1 * 64 + v1) = x := (lg_cmp_eq _ _).mp c_177
                    refine lv_iload hx hb d_M_store_180 (lv_at hl 0 rfl) ?_
                    refine lv_lload hx hb d_M_store_182 (lv_at hl 3 rfl) ?_
                    refine lv_lconst (v := 0) hx hb d_M_store_184 (by decide) ?_
                    refine W.lcmp hx hb d_M_store_185 ?_
                    refine lv_if_ne (tgt := 195) hx hb d_M_store_186 (by decide) (fun c_186 => ?_) (fun c_186 => ?_)
                    · have c_186 : ¬ F (u1 * 64 + v1) = 0 := fun q => c_186 ((lg_cmp_eq _ _).mpr q)
                      refine lv_sipush (v := 2800) hx hb d_M_store_195 (by decide) ?_
                      refine lv_iadd hx hb d_M_store_198 ?_
                      refine lv_istore (lv' := [(8, .int (((0) + 15000) + (2800))), (7, .int ((g0) + 100)), (11, .long (N (u1 * 64 + v1))), (9, .long (F (u1 * 64 + v1))), (6, .int (nI (u1 * 64 + v1))), (0, .ref (b 0)), (1, .int (nI u1)), (2, .int (nI v1)), (3, .long x), (5, .int gas)]) hx hb d_M_store_199 hl (by decide) rfl (fun ls hl => ?_)
                      refine T201 ((g0) + 100) (((0) + 15000) + (2800)) ls ?_ ?_ (lv_sub hl [1, 0, 3, 2, 4, 9, 8, 5] rfl)
                      · rw [← hg0]; unfold fWC; (repeat' split) <;> first | contradiction | exact Int32.add_comm _ _
                      · unfold fRC fCC fRS; (repeat' split) <;> first | contradiction | rfl | exact absurd (Eq.trans ‹x = 0› (Eq.trans (Eq.symm ‹F (u1 * 64 + v1) = 0›) ‹F (u1 * 64 + v1) = N (u1 * 64 + v1)›)) c_72
                    · have c_186 : F (u1 * 64 + v1) = 0 := (lg_cmp_eq _ _).mp c_186
                      exact absurd c_186 c_138
            · have c_145 : N (u1 * 64 + v1) = 0 := (lg_cmp_eq _ _).mp c_145
              refine lv_iincW (v := (0) + (-15000)) (lv' := [(8, .int ((0) + (-15000))), (7, .int ((g0) + 100)), (11, .long (N (u1 * 64 + v1))), (9, .long (F (u1 * 64 + v1))), (6, .int (nI (u1 * 64 + v1))), (0, .ref (b 0)), (1, .int (nI u1)), (2, .int (nI v1)), (3, .long x), (5, .int gas)]) hx hb d_M_store_148 hl (k := 3) rfl rfl (by decide) rfl (fun ls hl => ?_)
              refine lv_lload hx hb d_M_store_154 (lv_at hl 3 rfl) ?_
              refine lv_lconst (v := 0) hx hb d_M_store_156 (by decide) ?_
              refine W.lcmp hx hb d_M_store_157 ?_
              refine lv_if_eq (tgt := 173) hx hb d_M_store_158 (by decide) (fun c_158 => ?_) (fun c_158 => ?_)
              · have c_158 : F (u1 * 64 + v1) = 0 := (lg_cmp_eq _ _).mp c_158
                exact absurd c_158 c_138
              · have c_158 : ¬ F (u1 * 64 + v1) = 0 := fun q => c_158 ((lg_cmp_eq _ _).mpr q)
                refine lv_lload_n hx hb d_M_store_161 rfl (lv_at hl 8 rfl) ?_
                refine lv_lconst (v := 0) hx hb d_M_store_162 (by decide) ?_
                refine W.lcmp hx hb d_M_store_163 ?_
                refine lv_if_ne (tgt := 173) hx hb d_M_store_164 (by decide) (fun c_164 => ?_) (fun c_164 => ?_)
                · have c_164 : ¬ x = 0 := fun q => c_164 ((lg_cmp_eq _ _).mpr q)
                  refine lv_lload hx hb d_M_store_173 (lv_at hl 3 rfl) ?_
                  refine lv_lload_n hx hb d_M_store_175 rfl (lv_at hl 8 rfl) ?_
                  refine W.lcmp hx hb d_M_store_176 ?_
                  refine lv_if_ne (tgt := 201) hx hb d_M_store_177 (by decide) (fun c_177 => ?_) (fun c_177 => ?_)
                  · have c_177 : ¬ F (u1 * 64 + v1) = x := fun q => c_177 ((lg_cmp_eq _ _).mpr q)
                    refine T201 ((g0) + 100) ((0) + (-15000)) ls ?_ ?_ (lv_sub hl [1, 0, 3, 2, 4, 9, 8, 5] rfl)
                    · rw [← hg0]; unfold fWC; (repeat' split) <;> first | contradiction | exact Int32.add_comm _ _
                    · unfold fRC fCC fRS; (repeat' split) <;> first | contradiction | rfl | exact absurd (Eq.trans ‹x = 0› (Eq.trans (Eq.symm ‹F (u1 * 64 + v1) = 0›) ‹F (u1 * 64 + v1) = N (u1 * 64 + v1)›)) c_72
                  · have c_177 : F (u1 * 64 + v1) = x := (lg_cmp_eq _ _).mp c_177
                    refine lv_iload hx hb d_M_store_180 (lv_at hl 0 rfl) ?_
                    refine lv_lload hx hb d_M_store_182 (lv_at hl 3 rfl) ?_
                    refine lv_lconst (v := 0) hx hb d_M_store_184 (by decide) ?_
                    refine W.lcmp hx hb d_M_store_185 ?_
                    refine lv_if_ne (tgt := 195) hx hb d_M_store_186 (by decide) (fun c_186 => ?_) (fun c_186 => ?_)
                    · have c_186 : ¬ F (u1 * 64 + v1) = 0 := fun q => c_186 ((lg_cmp_eq _ _).mpr q)
                      refine lv_sipush (v := 2800) hx hb d_M_store_195 (by decide) ?_
                      refine lv_iadd hx hb d_M_store_198 ?_
                      refine lv_istore (lv' := [(8, .int (((0) + (-15000)) + (2800))), (7, .int ((g0) + 100)), (11, .long (N (u1 * 64 + v1))), (9, .long (F (u1 * 64 + v1))), (6, .int (nI (u1 * 64 + v1))), (0, .ref (b 0)), (1, .int (nI u1)), (2, .int (nI v1)), (3, .long x), (5, .int gas)]) hx hb d_M_store_199 hl (by decide) rfl (fun ls hl => ?_)
                      refine T201 ((g0) + 100) (((0) + (-15000)) + (2800)) ls ?_ ?_ (lv_sub hl [1, 0, 3, 2, 4, 9, 8, 5] rfl)
                      · rw [← hg0]; unfold fWC; (repeat' split) <;> first | contradiction | exact Int32.add_comm _ _
                      · unfold fRC fCC fRS; (repeat' split) <;> first | contradiction | rfl | exact absurd (Eq.trans ‹x = 0› (Eq.trans (Eq.symm ‹F (u1 * 64 + v1) = 0›) ‹F (u1 * 64 + v1) = N (u1 * 64 + v1)›)) c_72
                    · have c_186 : F (u1 * 64 + v1) = 0 := (lg_cmp_eq _ _).mp c_186
                      exact absurd c_186 c_138
                · have c_164 : x = 0 := (lg_cmp_eq _ _).mp c_164
                  refine lv_iincW (v := ((0) + (-15000)) + 15000) (lv' := [(8, .int (((0) + (-15000)) + 15000)), (7, .int ((g0) + 100)), (11, .long (N (u1 * 64 + v1))), (9, .long (F (u1 * 64 + v1))), (6, .int (nI (u1 * 64 + v1))), (0, .ref (b 0)), (1, .int (nI u1)), (2, .int (nI v1)), (3, .long x), (5, .int gas)]) hx hb d_M_store_167 hl (k := 0) rfl rfl (by decide) rfl (fun ls hl => ?_)
                  refine lv_lload hx hb d_M_store_173 (lv_at hl 3 rfl) ?_
                  refine lv_lload_n hx hb d_M_store_175 rfl (lv_at hl 8 rfl) ?_
                  refine W.lcmp hx hb d_M_store_176 ?_
                  refine lv_if_ne (tgt := 201) hx hb d_M_store_177 (by decide) (fun c_177 => ?_) (fun c_177 => ?_)
                  · have c_177 : ¬ F (u1 * 64 + v1) = x := fun q => c_177 ((lg_cmp_eq _ _).mpr q)
                    exact absurd (c_164.trans c_145.symm) c_72
                  · have c_177 : F (u1 * 64 + v1) = x := (lg_cmp_eq _ _).mp c_177
                    refine lv_iload hx hb d_M_store_180 (lv_at hl 0 rfl) ?_
                    refine lv_lload hx hb d_M_store_182 (lv_at hl 3 rfl) ?_
                    refine lv_lconst (v := 0) hx hb d_M_store_184 (by decide) ?_
                    refine W.lcmp hx hb d_M_store_185 ?_
                    refine lv_if_ne (tgt := 195) hx hb d_M_store_186 (by decide) (fun c_186 => ?_) (fun c_186 => ?_)
                    · have c_186 : ¬ F (u1 * 64 + v1) = 0 := fun q => c_186 ((lg_cmp_eq _ _).mpr q)
                      refine lv_sipush (v := 2800) hx hb d_M_store_195 (by decide) ?_
                      refine lv_iadd hx hb d_M_store_198 ?_
                      refine lv_istore (lv' := [(8, .int ((((0) + (-15000)) + 15000) + (2800))), (7, .int ((g0) + 100)), (11, .long (N (u1 * 64 + v1))), (9, .long (F (u1 * 64 + v1))), (6, .int (nI (u1 * 64 + v1))), (0, .ref (b 0)), (1, .int (nI u1)), (2, .int (nI v1)), (3, .long x), (5, .int gas)]) hx hb d_M_store_199 hl (by decide) rfl (fun ls hl => ?_)
                      exact absurd (c_164.trans c_145.symm) c_72
                    · have c_186 : F (u1 * 64 + v1) = 0 := (lg_cmp_eq _ _).mp c_186
                      exact absurd c_186 c_138
        · have c_86 : F (u1 * 64 + v1) = N (u1 * 64 + v1) := (lg_cmp_eq _ _).mp c_86
          refine lv_iload hx hb d_M_store_89 (lv_at hl 3 rfl) ?_
          refine lv_lload hx hb d_M_store_91 (lv_at hl 1 rfl) ?_
          refine lv_lconst (v := 0) hx hb d_M_store_93 (by decide) ?_
          refine W.lcmp hx hb d_M_store_94 ?_
          refine lv_if_ne (tgt := 104) hx hb d_M_store_95 (by decide) (fun c_95 => ?_) (fun c_95 => ?_)
          · have c_95 : ¬ F (u1 * 64 + v1) = 0 := fun q => c_95 ((lg_cmp_eq _ _).mpr q)
            refine lv_sipush (v := 2900) hx hb d_M_store_104 (by decide) ?_
            refine lv_iadd hx hb d_M_store_107 ?_
            refine lv_istore (lv' := [(7, .int ((g0) + (2900))), (11, .long (N (u1 * 64 + v1))), (9, .long (F (u1 * 64 + v1))), (8, .int 0), (6, .int (nI (u1 * 64 + v1))), (0, .ref (b 0)), (1, .int (nI u1)), (2, .int (nI v1)), (3, .long x), (5, .int gas)]) hx hb d_M_store_108 hl (by decide) rfl (fun ls hl => ?_)
            refine lv_lload hx hb d_M_store_110 (lv_at hl 2 rfl) ?_
            refine lv_lconst (v := 0) hx hb d_M_store_112 (by decide) ?_
            refine W.lcmp hx hb d_M_store_113 ?_
            refine lv_if_eq (tgt := 201) hx hb d_M_store_114 (by decide) (fun c_114 => ?_) (fun c_114 => ?_)
            · have c_114 : F (u1 * 64 + v1) = 0 := (lg_cmp_eq _ _).mp c_114
              exact absurd c_114 c_95
            · have c_114 : ¬ F (u1 * 64 + v1) = 0 := fun q => c_114 ((lg_cmp_eq _ _).mpr q)
              refine lv_lload_n hx hb d_M_store_117 rfl (lv_at hl 8 rfl) ?_
              refine lv_lconst (v := 0) hx hb d_M_store_118 (by decide) ?_
              refine W.lcmp hx hb d_M_store_119 ?_
              refine lv_if_ne (tgt := 201) hx hb d_M_store_120 (by decide) (fun c_120 => ?_) (fun c_120 => ?_)
              · have c_120 : ¬ x = 0 := fun q => c_120 ((lg_cmp_eq _ _).mpr q)
                refine T201 ((g0) + (2900)) (0) ls ?_ ?_ (lv_sub hl [0, 3, 2, 1, 4, 9, 8, 5] rfl)
                · rw [← hg0]; unfold fWC; (repeat' split) <;> first | contradiction | exact Int32.add_comm _ _
                · unfold fRC fCC fRS; (repeat' split) <;> first | contradiction | rfl | exact absurd (Eq.trans ‹x = 0› (Eq.trans (Eq.symm ‹F (u1 * 64 + v1) = 0›) ‹F (u1 * 64 + v1) = N (u1 * 64 + v1)›)) c_72
              · have c_120 : x = 0 := (lg_cmp_eq _ _).mp c_120
                refine lv_sipush (v := 15000) hx hb d_M_store_123 (by decide) ?_
                refine lv_istore (lv' := [(8, .int 15000), (7, .int ((g0) + (2900))), (11, .long (N (u1 * 64 + v1))), (9, .long (F (u1 * 64 + v1))), (6, .int (nI (u1 * 64 + v1))), (0, .ref (b 0)), (1, .int (nI u1)), (2, .int (nI v1)), (3, .long x), (5, .int gas)]) hx hb d_M_store_126 hl (by decide) rfl (fun ls hl => ?_)
                refine lv_goto (tgt := 201) hx hb d_M_store_128 (by decide) ?_
                refine T201 ((g0) + (2900)) (15000) ls ?_ ?_ (lv_sub hl [1, 0, 3, 2, 4, 9, 8, 5] rfl)
                · rw [← hg0]; unfold fWC; (repeat' split) <;> first | contradiction | exact Int32.add_comm _ _
                · unfold fRC fCC fRS; (repeat' split) <;> first | contradiction | rfl | exact absurd (Eq.trans ‹x = 0› (Eq.trans (Eq.symm ‹F (u1 * 64 + v1) = 0›) ‹F (u1 * 64 + v1) = N (u1 * 64 + v1)›)) c_72
          · have c_95 : F (u1 * 64 + v1) = 0 := (lg_cmp_eq _ _).mp c_95
            refine lv_sipush (v := 20000) hx hb d_M_store_98 (by decide) ?_
            refine lv_goto (tgt := 107) hx hb d_M_store_101 (by decide) ?_
            refine lv_iadd hx hb d_M_store_107 ?_
            refine lv_istore (lv' := [(7, .int ((g0) + (20000))), (11, .long (N (u1 * 64 + v1))), (9, .long (F (u1 * 64 + v1))), (8, .int 0), (6, .int (nI (u1 * 64 + v1))), (0, .ref (b 0)), (1, .int (nI u1)), (2, .int (nI v1)), (3, .long x), (5, .int gas)]) hx hb d_M_store_108 hl (by decide) rfl (fun ls hl => ?_)
            refine lv_lload hx hb d_M_store_110 (lv_at hl 2 rfl) ?_
            refine lv_lconst (v := 0) hx hb d_M_store_112 (by decide) ?_
            refine W.lcmp hx hb d_M_store_113 ?_
            refine lv_if_eq (tgt := 201) hx hb d_M_store_114 (by decide) (fun c_114 => ?_) (fun c_114 => ?_)
            · have c_114 : F (u1 * 64 + v1) = 0 := (lg_cmp_eq _ _).mp c_114
              refine T201 ((g0) + (20000)) (0) ls ?_ ?_ (lv_sub hl [0, 3, 2, 1, 4, 9, 8, 5] rfl)
              · rw [← hg0]; unfold fWC; (repeat' split) <;> first | contradiction | exact Int32.add_comm _ _
              · unfold fRC fCC fRS; (repeat' split) <;> first | contradiction | rfl | exact absurd (Eq.trans ‹x = 0› (Eq.trans (Eq.symm ‹F (u1 * 64 + v1) = 0›) ‹F (u1 * 64 + v1) = N (u1 * 64 + v1)›)) c_72
            · have c_114 : ¬ F (u1 * 64 + v1) = 0 := fun q => c_114 ((lg_cmp_eq _ _).mpr q)
              exact absurd c_95 c_114
      · have c_72 : x = N (u1 * 64 + v1) := (lg_cmp_eq _ _).mp c_72
        refine lv_iinc (v := (g0) + 100) (lv' := [(7, .int ((g0) + 100)), (11, .long (N (u1 * 64 + v1))), (9, .long (F (u1 * 64 + v1))), (8, .int 0), (6, .int (nI (u1 * 64 + v1))), (0, .ref (b 0)), (1, .int (nI u1)), (2, .int (nI v1)), (3, .long x), (5, .int gas)]) hx hb d_M_store_75 hl (k := 3) rfl rfl (by decide) rfl (fun ls hl => ?_)
        refine lv_goto (tgt := 201) hx hb d_M_store_78 (by decide) ?_
        refine T201 ((g0) + 100) (0) ls ?_ ?_ (lv_sub hl [0, 3, 2, 1, 4, 9, 8, 5] rfl)
        · rw [← hg0]; unfold fWC; (repeat' split) <;> first | contradiction | exact Int32.add_comm _ _
        · unfold fRC fCC fRS; (repeat' split) <;> first | contradiction | rfl | exact absurd (Eq.trans ‹x = 0› (Eq.trans (Eq.symm ‹F (u1 * 64 + v1) = 0›) ‹F (u1 * 64 + v1) = N (u1 * 64 + v1)›)) c_72
    refine lv_if_eq (tgt := 42) hx hb d_M_store_35 (by decide) (fun c_35 => ?_) (fun c_35 => ?_)
    · refine lv_sipush (v := 2100) hx hb d_M_store_42 (by decide) ?_
      refine T45 2100 ls ?_ (lv_sub hl [0, 1, 2, 3, 4, 5] rfl)
      rw [zb_c] at c_35
      cases hq : t (u1 * 64 + v1) <;> rw [hq] at c_35 <;> first | rfl | exact absurd rfl c_35 | exact absurd c_35 (by decide)
    · refine lv_iconst (v := 0) hx hb d_M_store_38 (by decide) ?_
      refine lv_goto (tgt := 45) hx hb d_M_store_39 (by decide) ?_
      refine T45 0 ls ?_ (lv_sub hl [0, 1, 2, 3, 4, 5] rfl)
      rw [zb_c] at c_35
      cases hq : t (u1 * 64 + v1) <;> rw [hq] at c_35 <;> first | rfl | exact absurd rfl c_35 | exact absurd c_35 (by decide)
  · rcases hr1 with ⟨-, e1⟩ | ⟨hno, -⟩
    · exact absurd e1 c_11
    refine lv_aload_n hx hb d_M_store_14 rfl (lv_at hl 0 rfl) ?_
    refine lv_iconst (v := 1) hx hb d_M_store_15 (by decide) ?_
    refine va_calli (va_runV (As := [.int 1]) (rest := []) (C := RM) ⟨hx, hb, hml, hown, hts⟩ (m_M_fail l D k b 0 r d N F t KR K T 1 _) (cwV 1 hts (TB_g kl_M_48 ki_M_fail ks_M_fail kz_M (TB_c kc_M_fail)) rfl rfl rfl (by decide +kernel) ⟨Nat.le_of_ble_eq_true rfl, Nat.le_of_ble_eq_true rfl⟩) ⟨PW.bl, va_recv (q := (RM, TM, 9)) (ci := 2) (q0 := 0) hK hP rfl rfl, fun U hU hW => ⟨rfl, PW.go hK hP hD hS hA hE hU hW⟩⟩ rfl rfl hl.1 rfl (lv_room (Nat.le_of_ble_eq_true rfl)) d_M_store_16 ⟨Nat.zero_le _, Nat.zero_le _⟩) hS (fun q _ h => cut_F hD hS hA q h) (cut_F hD hS hA) (fun r9 uu t9 H1 locs1 ht hvm hpost hB hz hk hS => ?_)
    rw [ht] at hB
    have hP := hB
    have hD := hD.ad (wm_ad : (WM k b 1 r d N F (zb t) KR K (fun i => zb (T i))).map Prod.fst = _)
    generalize H1 = H at hP hS ⊢
    generalize locs1 = locs at hS ⊢
    subst hpost
    exact W.iret (v := 0) hx hb hr (fun t9 ht hW => ⟨⟨_, (1, r, N, t), rfl, Or.inl ⟨hno, rfl⟩, atP hP ht⟩, hS.F ht⟩) hS.2.2 d_M_store_19
