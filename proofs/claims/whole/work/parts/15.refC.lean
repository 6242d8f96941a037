/-! the reference: close, load, held, touched, count -/
set_option maxHeartbeats 4000000 in
set_option maxRecDepth 100000 in
theorem m_M_close (l : Launch) (D : va_G) (k : Nat → ClassId) (b : Nat → Nat) (f r : Int32) (d : Nat) (hd : d ≤ 30) (N F : Nat → Int64) (t : Nat → Bool) (KR : Nat → Int32) (K : Nat → Nat → Int64) (T : Nat → Nat → Bool) (z : Int32) (sz : Nat) : Met l y_M_close (w_M_close :: TB) rM (va_Pc [.ref (b 0), .int z] (PW D k (WM k b f r (nI d) N F (zb t) KR K (fun i => zb (T i))) sz)) (va_Qi (fun (x : Int32) (u : Int32 × Nat × Int32 × (Nat → Int64) × (Nat → Bool)) => (d = 0 ∧ x = 0 ∧ u = (1, 0, r, N, t)) ∨ (∃ e, d = e + 1 ∧ x = nI e ∧ u.1 = 0 ∧ u.2.1 = e ∧ (¬ z = 0 → u.2.2 = (r, N, t)) ∧ (z = 0 → u.2.2.1 = KR (e + 1) ∧ (∀ j, j < 256 → u.2.2.2.1 j = K (e + 1) j) ∧ (∀ j, j < 256 → u.2.2.2.2 j = T (e + 1) j)))) (fun u t9 => va_P D wCl (WM k b u.1 u.2.2.1 (nI u.2.1) u.2.2.2.1 F (zb u.2.2.2.2) KR K (fun i => zb (T i))) t9.heap) (va_A (WM k b f r (nI d) N F (zb t) KR K (fun i => zb (T i))) sz)) 0 0 (va_A (WM k b f r (nI d) N F (zb t) KR K (fun i => zb (T i))) sz) := by
  refine Met.ofW (cc := b_M_close) (maxL := 3) (ret := some .int) (by decide) rfl ?_
  intro p e s m args below meth c s₁ B hml hv
  obtain ⟨rfl, hsz, hP, hK, hD0, hE⟩ := hv
  have hx := B.exec
  have hb := B.bytes
  have hr := B.returns
  have hts0 := atoms_spec (ws := w_M_close :: TB) B.pre
  have hts := fun w (hw : w ∈ TB) => hts0 w (List.mem_cons_of_mem _ hw)
  have hown : s.vm.findClass RM = some m.cls := findClass_of_methodNamed B.named
  have hlocks := B.notSynchronized
  subst hsz
  have hD := hD0.self (sz := s.heap.size)
  generalize hAe : va_A (WM k b f r (nI d) N F (zb t) KR K (fun i => zb (T i))) s.heap.size = A at *
  have hA : ∀ q : Nat, s.heap.size ≤ q → A q := fun q h => by rw [← hAe]; exact Or.inr h
  have hS : va_S A s.heap s.heap [] := va_S.rf
  have hl := lv_entry ([.ref (b 0), .int z]) (n := 3) (Nat.le_of_ble_eq_true rfl)
  rw [lg_entry_eq]
  generalize (lg_sl ([.ref (b 0), .int z]) ++ List.replicate (3 - (lg_sl ([.ref (b 0), .int z])).length) Slot.unset).toArray = ls at hl ⊢
  have hl : lv_has ls 3 [(0, .ref (b 0)), (1, .int z)] := hl
  refine lv_aload_n hx hb d_M_close_0 rfl (lv_at hl 0 rfl) ?_
  refine lv_iconst (v := 0) hx hb d_M_close_1 (by decide) ?_
  refine va_put (D := D) (ci := 2) (v := .int 0) (ty := .int) (C := RM) (T := TM) (N := 9) hx hb hts kin_M tM tyM nmM hown hK hP hD hS 0 rfl rfl 0 (by decide) (hts _ kf_M_34) (fun _ h9 => h9) rfl (by decide +kernel) rfl rfl (Nat.le_of_ble_eq_true rfl) d_M_close_2 (fun H locs hP hD hS => ?_)
  have hP : va_P D wCl (WM k b 0 r (nI d) N F (zb t) KR K (fun i => zb (T i))) H := hP
  have hD : va_D A (WM k b 0 r (nI d) N F (zb t) KR K (fun i => zb (T i))) := hD
  refine lv_aload_n hx hb d_M_close_5 rfl (lv_at hl 0 rfl) ?_
  refine va_get (D := D) (ci := 2) (v := .int (nI d)) (C := RM) (T := TM) (N := 9) hx hb hts kin_M hown hK hP 0 rfl rfl 8 (by decide) (hts _ kf_M_41) (fun _ h9 => h9) rfl d_M_close_6 ?_
  refine lv_if_ne (tgt := 18) hx hb d_M_close_9 (by decide) (fun c_9 => ?_) (fun c_9 => ?_)
  · obtain ⟨f9, rfl⟩ : ∃ f9, d = f9 + 1 := by
      cases d with
      | zero => exact absurd nI_0 c_9
      | succ f9 => exact ⟨f9, rfl⟩
    have hf1 : f9 + 1 < 31 := by omega
    refine lv_iload_n hx hb d_M_close_18 rfl (lv_at hl 1 rfl) ?_
    refine lv_if_ne (tgt := 84) hx hb d_M_close_19 (by decide) (fun c_19 => ?_) (fun c_19 => ?_)
    · refine lv_aload_n hx hb d_M_close_84 rfl (lv_at hl 0 rfl) ?_
      refine lv_dup hx hb d_M_close_85 rfl ?_
      refine va_get (D := D) (ci := 2) (v := .int (nI (f9 + 1))) (C := RM) (T := TM) (N := 9) hx hb hts kin_M hown hK hP 0 rfl rfl 8 (by decide) (hts _ kf_M_41) (fun _ h9 => h9) rfl d_M_close_86 ?_
      refine lv_iconst (v := 1) hx hb d_M_close_89 (by decide) ?_
      refine lv_isub hx hb d_M_close_90 ?_
      rw [nI_pred f9]
      refine va_put (D := D) (ci := 2) (v := .int (nI f9)) (ty := .int) (C := RM) (T := TM) (N := 9) hx hb hts kin_M tM tyM nmM hown hK hP hD hS 0 rfl rfl 8 (by decide) (hts _ kf_M_41) (fun _ h9 => h9) rfl (by decide +kernel) rfl rfl (Nat.le_of_ble_eq_true rfl) d_M_close_91 (fun H locs hP hD hS => ?_)
      have hP : va_P D wCl (WM k b 0 r (nI f9) N F (zb t) KR K (fun i => zb (T i))) H := hP
      have hD : va_D A (WM k b 0 r (nI f9) N F (zb t) KR K (fun i => zb (T i))) := hD
      refine lv_aload_n hx hb d_M_close_94 rfl (lv_at hl 0 rfl) ?_
      refine va_get (D := D) (ci := 2) (v := .int (nI f9)) (C := RM) (T := TM) (N := 9) hx hb hts kin_M hown hK hP 0 rfl rfl 8 (by decide) (hts _ kf_M_41) (fun _ h9 => h9) rfl d_M_close_95 ?_
      exact W.iret (v := nI f9) hx hb hr (fun t9 ht hW => ⟨⟨_, (0, f9, r, N, t), rfl, Or.inr ⟨f9, rfl, rfl, rfl, rfl, fun _ => rfl, fun q => absurd q c_19⟩, atP hP ht⟩, hS.F ht⟩) hS.2.2 d_M_close_98
    · refine lv_iconst (v := 0) hx hb d_M_close_22 (by decide) ?_
      refine lv_istore_n (lv' := [(2, .int 0), (0, .ref (b 0)), (1, .int z)]) hx hb d_M_close_23 rfl hl (by decide) rfl (fun ls hl => ?_)
      generalize H = H9 at hP hS ⊢
      generalize locs = locs9 at hS ⊢
      generalize hRR : (headSpec (w_M_close :: TB) rM).room = RR
      generalize hQQ : MQ below (va_Qi (fun (x : Int32) (u : Int32 × Nat × Int32 × (Nat → Int64) × (Nat → Bool)) => (f9 + 1 = 0 ∧ x = 0 ∧ u = (1, 0, r, N, t)) ∨ (∃ e, f9 + 1 = e + 1 ∧ x = nI e ∧ u.1 = 0 ∧ u.2.1 = e ∧ (¬ z = 0 → u.2.2 = (r, N, t)) ∧ (z = 0 → u.2.2.1 = KR (e + 1) ∧ (∀ j, j < 256 → u.2.2.2.1 j = K (e + 1) j) ∧ (∀ j, j < 256 → u.2.2.2.2 j = T (e + 1) j)))) (fun u t9 => va_P D wCl (WM k b u.1 u.2.2.1 (nI u.2.1) u.2.2.2.1 F (zb u.2.2.2.2) KR K (fun i => zb (T i))) t9.heap) A) [.ref (b 0), .int z].toArray s 0 0 A = QQ
      have loop : ∀ (n j : Nat), j ≤ 256 → 257 ≤ j + n → ∀ (N2 : Nat → Int64) (t2 : Nat → Bool), (∀ q, q < j → N2 q = K (f9 + 1) q) → (∀ q, q < j → t2 q = T (f9 + 1) q) → ∀ (H : Heap) (locs : List Loc), va_P D wCl (WM k b 0 r (nI (f9 + 1)) N2 F (zb t2) KR K (fun i => zb (T i))) H → va_D A (WM k b 0 r (nI (f9 + 1)) N2 F (zb t2) KR K (fun i => zb (T i))) → va_S A s.heap H locs → ∀ (ls : Array Slot), lv_has ls 3 [(2, .int (nI j)), (1, .int z), (0, .ref (b 0))] → W p l e RR s m [.ref (b 0), .int z].toArray below meth c H locs 0 0 QQ (F0 m 24 ls []) := by
        intro n
        induction n with
        | zero =>
          intro j h1 h2
          exact absurd h2 (by omega)
        | succ n ih =>
          intro j hj hjn N2 t2 hg hg2 H locs hP hD hS ls hl
          refine lv_iload_n hx hb d_M_close_24 rfl (lv_at hl 0 rfl) ?_
          refine lv_sipush (v := 256) hx hb d_M_close_25 (by decide) ?_
          refine lv_icmp_ge (tgt := 71) hx hb d_M_close_28 (by decide) (fun c_28 => ?_) (fun c_28 => ?_)
          · have hj : j = 256 := by
              rcases Nat.lt_or_ge j 256 with q | q
              · exact absurd c_28 (nI_ge q (by decide))
              · omega
            subst hj
            subst hRR hQQ
            refine lv_aload_n hx hb d_M_close_71 rfl (lv_at hl 2 rfl) ?_
            refine lv_aload_n hx hb d_M_close_72 rfl (lv_at hl 2 rfl) ?_
            refine va_get (D := D) (ci := 2) (v := .ref (b 3)) (C := RM) (T := TM) (N := 9) hx hb hts kin_M hown hK hP 0 rfl rfl 3 (by decide) (hts _ kf_M_19) (fun _ h9 => h9) rfl d_M_close_73 ?_
            refine lv_aload_n hx hb d_M_close_76 rfl (lv_at hl 2 rfl) ?_
            refine va_get (D := D) (ci := 2) (v := .int (nI (f9 + 1))) (C := RM) (T := TM) (N := 9) hx hb hts kin_M hown hK hP 0 rfl rfl 8 (by decide) (hts _ kf_M_41) (fun _ h9 => h9) rfl d_M_close_77 ?_
            refine va_iald hx hb hK hP 3 4 rfl rfl (vp_in_nI hf1 (by decide)) d_M_close_80 ?_
            rw [nI_clamp (show f9 + 1 < 2 ^ 31 by omega)]
            refine va_put (D := D) (ci := 2) (v := .int (KR (f9 + 1))) (ty := .int) (C := RM) (T := TM) (N := 9) hx hb hts kin_M tM tyM nmM hown hK hP hD hS 0 rfl rfl 7 (by decide) (hts _ kf_M_38) (fun _ h9 => h9) rfl (by decide +kernel) rfl rfl (Nat.le_of_ble_eq_true rfl) d_M_close_81 (fun H locs hP hD hS => ?_)
            have hP : va_P D wCl (WM k b 0 (KR (f9 + 1)) (nI (f9 + 1)) N2 F (zb t2) KR K (fun i => zb (T i))) H := hP
            have hD : va_D A (WM k b 0 (KR (f9 + 1)) (nI (f9 + 1)) N2 F (zb t2) KR K (fun i => zb (T i))) := hD
            refine lv_aload_n hx hb d_M_close_84 rfl (lv_at hl 2 rfl) ?_
            refine lv_dup hx hb d_M_close_85 rfl ?_
            refine va_get (D := D) (ci := 2) (v := .int (nI (f9 + 1))) (C := RM) (T := TM) (N := 9) hx hb hts kin_M hown hK hP 0 rfl rfl 8 (by decide) (hts _ kf_M_41) (fun _ h9 => h9) rfl d_M_close_86 ?_
            refine lv_iconst (v := 1) hx hb d_M_close_89 (by decide) ?_
            refine lv_isub hx hb d_M_close_90 ?_
            rw [nI_pred f9]
            refine va_put (D := D) (ci := 2) (v := .int (nI f9)) (ty := .int) (C := RM) (T := TM) (N := 9) hx hb hts kin_M tM tyM nmM hown hK hP hD hS 0 rfl rfl 8 (by decide) (hts _ kf_M_41) (fun _ h9 => h9) rfl (by decide +kernel) rfl rfl (Nat.le_of_ble_eq_true rfl) d_M_close_91 (fun H locs hP hD hS => ?_)
            have hP : va_P D wCl (WM k b 0 (KR (f9 + 1)) (nI f9) N2 F (zb t2) KR K (fun i => zb (T i))) H := hP
            have hD : va_D A (WM k b 0 (KR (f9 + 1)) (nI f9) N2 F (zb t2) KR K (fun i => zb (T i))) := hD
            refine lv_aload_n hx hb d_M_close_94 rfl (lv_at hl 2 rfl) ?_
            refine va_get (D := D) (ci := 2) (v := .int (nI f9)) (C := RM) (T := TM) (N := 9) hx hb hts kin_M hown hK hP 0 rfl rfl 8 (by decide) (hts _ kf_M_41) (fun _ h9 => h9) rfl d_M_close_95 ?_
            exact W.iret (v := nI f9) hx hb hr (fun t9 ht hW => ⟨⟨_, (0, f9, KR (f9 + 1), N2, t2), rfl, Or.inr ⟨f9, rfl, rfl, rfl, rfl, fun q => absurd c_19 q, fun _ => ⟨rfl, hg, hg2⟩⟩, atP hP ht⟩, hS.F ht⟩) hS.2.2 d_M_close_98
          · have hlt : j < 256 := by
              rcases Nat.lt_or_ge j 256 with q | q
              · exact q
              · exact absurd (nI_le q (by omega)) c_28
            refine lv_aload_n hx hb d_M_close_31 rfl (lv_at hl 2 rfl) ?_
            refine va_get (D := D) (ci := 2) (v := .ref (b 4)) (C := RM) (T := TM) (N := 9) hx hb hts kin_M hown hK hP 0 rfl rfl 4 (by decide) (hts _ kf_M_23) (fun _ h9 => h9) rfl d_M_close_32 ?_
            refine lv_iload_n hx hb d_M_close_35 rfl (lv_at hl 0 rfl) ?_
            refine lv_aload_n hx hb d_M_close_36 rfl (lv_at hl 2 rfl) ?_
            refine va_get (D := D) (ci := 2) (v := .ref (b 1)) (C := RM) (T := TM) (N := 9) hx hb hts kin_M hown hK hP 0 rfl rfl 1 (by decide) (hts _ kf_M_9) (fun _ h9 => h9) rfl d_M_close_37 ?_
            refine lv_aload_n hx hb d_M_close_40 rfl (lv_at hl 2 rfl) ?_
            refine va_get (D := D) (ci := 2) (v := .int (nI (f9 + 1))) (C := RM) (T := TM) (N := 9) hx hb hts kin_M hown hK hP 0 rfl rfl 8 (by decide) (hts _ kf_M_41) (fun _ h9 => h9) rfl d_M_close_41 ?_
            refine va_aldA (ty := .long) hx hb hK hP 1 2 rfl rfl (vp_in_nI hf1 (by decide)) d_M_close_44 ?_
            rw [show ((nI (f9 + 1)) : Int32).toNatClampNeg = (f9 + 1) from nI_clamp (by omega)]
            refine W.eq (g2 := F0 m 45 ls [.ref (b (7 + (f9 + 1))), .int (nI j), .ref (b 4)]) rfl ?_
            refine lv_iload_n hx hb d_M_close_45 rfl (lv_at hl 0 rfl) ?_
            refine va_lald hx hb hK hP ((f9 + 1) + 7) 0 (wm_k hf1) rfl (vp_in_nI hlt (by decide)) d_M_close_46 ?_
            refine va_last hx hb hK hP hD hS 4 0 rfl rfl (vp_in_nI hlt (by decide)) d_M_close_47 (fun H locs hP hD hS => ?_)
            rw [nI_clamp (show j < 2 ^ 31 by omega)] at hP hD
            have hP : va_P D wCl (WM k b 0 r (nI (f9 + 1)) (vp_updL N2 j (K (f9 + 1) j)) F (zb t2) KR K (fun i => zb (T i))) H := hP
            have hD : va_D A (WM k b 0 r (nI (f9 + 1)) (vp_updL N2 j (K (f9 + 1) j)) F (zb t2) KR K (fun i => zb (T i))) := hD
            refine lv_aload_n hx hb d_M_close_48 rfl (lv_at hl 2 rfl) ?_
            refine va_get (D := D) (ci := 2) (v := .ref (b 6)) (C := RM) (T := TM) (N := 9) hx hb hts kin_M hown hK hP 0 rfl rfl 6 (by decide) (hts _ kf_M_30) (fun _ h9 => h9) rfl d_M_close_49 ?_
            refine lv_iload_n hx hb d_M_close_52 rfl (lv_at hl 0 rfl) ?_
            refine lv_aload_n hx hb d_M_close_53 rfl (lv_at hl 2 rfl) ?_
            refine va_get (D := D) (ci := 2) (v := .ref (b 2)) (C := RM) (T := TM) (N := 9) hx hb hts kin_M hown hK hP 0 rfl rfl 2 (by decide) (hts _ kf_M_16) (fun _ h9 => h9) rfl d_M_close_54 ?_
            refine lv_aload_n hx hb d_M_close_57 rfl (lv_at hl 2 rfl) ?_
            refine va_get (D := D) (ci := 2) (v := .int (nI (f9 + 1))) (C := RM) (T := TM) (N := 9) hx hb hts kin_M hown hK hP 0 rfl rfl 8 (by decide) (hts _ kf_M_41) (fun _ h9 => h9) rfl d_M_close_58 ?_
            refine va_aldA (ty := .boolean) hx hb hK hP 2 3 rfl rfl (vp_in_nI hf1 (by decide)) d_M_close_61 ?_
            rw [show ((nI (f9 + 1)) : Int32).toNatClampNeg = (f9 + 1) from nI_clamp (by omega)]
            refine W.eq (g2 := F0 m 62 ls [.ref (b (38 + (f9 + 1))), .int (nI j), .ref (b 6)]) rfl ?_
            refine lv_iload_n hx hb d_M_close_62 rfl (lv_at hl 0 rfl) ?_
            refine va_zald hx hb hK hP ((f9 + 1) + 38) 5 (wm_t hf1) rfl (vp_in_nI hlt (by decide)) d_M_close_63 ?_
            refine va_zast hx hb hK hP hD hS 6 5 rfl rfl (vp_in_nI hlt (by decide)) d_M_close_64 (fun H locs hP hD hS => ?_)
            rw [nI_clamp (show j < 2 ^ 31 by omega), zb_up t2 j (T (f9 + 1) j) (x := zb (T (f9 + 1)) j) rfl] at hP hD
            have hP : va_P D wCl (WM k b 0 r (nI (f9 + 1)) (vp_updL N2 j (K (f9 + 1) j)) F (zb (va_up t2 j (T (f9 + 1) j))) KR K (fun i => zb (T i))) H := hP
            have hD : va_D A (WM k b 0 r (nI (f9 + 1)) (vp_updL N2 j (K (f9 + 1) j)) F (zb (va_up t2 j (T (f9 + 1) j))) KR K (fun i => zb (T i))) := hD
            refine lv_iinc (v := (nI j) + 1) (lv' := [(2, .int ((nI j) + 1)), (1, .int z), (0, .ref (b 0))]) hx hb d_M_close_65 hl (k := 0) rfl rfl (by decide) rfl (fun ls hl => ?_)
            refine lv_goto (tgt := 24) hx hb d_M_close_68 (by decide) ?_
            refine ih (j + 1) hlt (by omega) _ _ (fun q hq => ?_) (fun q hq => ?_) H locs hP hD hS ls ?_
            · by_cases h : q = j
              · rw [h]; exact pk_uLs
              · rw [pk_uLn h]; exact hg q (by omega)
            · by_cases h : q = j
              · rw [h]; exact va_up_self _ _ _
              · rw [va_up_ne _ _ h]; exact hg2 q (by omega)
            · rw [← nI_1 j]; exact lv_sub hl [0, 1, 2] rfl
      exact loop 257 0 (by omega) (by omega) N t (fun q h => absurd h (Nat.not_lt_zero q)) (fun q h => absurd h (Nat.not_lt_zero q)) H9 locs9 hP hD hS ls (lv_sub hl [0, 2, 1] rfl)
  · have hd0 : d = 0 := (nI_eq (by omega) (by decide)).mp (show nI d = nI 0 from c_9)
    subst hd0
    refine lv_aload_n hx hb d_M_close_12 rfl (lv_at hl 0 rfl) ?_
    refine lv_iconst (v := 1) hx hb d_M_close_13 (by decide) ?_
    refine va_calli (va_runV (As := [.int 1]) (rest := []) (C := RM) ⟨hx, hb, hml, hown, hts⟩ (m_M_fail l D k b 0 r (nI 0) N F t KR K T 1 _) (cwV 1 hts (TB_g kl_M_48 ki_M_fail ks_M_fail kz_M (TB_c kc_M_fail)) rfl rfl rfl (by decide +kernel) ⟨Nat.le_of_ble_eq_true rfl, Nat.le_of_ble_eq_true rfl⟩) ⟨PW.bl, va_recv (q := (RM, TM, 9)) (ci := 2) (q0 := 0) hK hP rfl rfl, fun U hU hW => ⟨rfl, PW.go hK hP hD hS hA hE hU hW⟩⟩ rfl rfl hl.1 rfl (lv_room (Nat.le_of_ble_eq_true rfl)) d_M_close_14 ⟨Nat.zero_le _, Nat.zero_le _⟩) hS (fun q _ h => cut_F hD hS hA q h) (cut_F hD hS hA) (fun r9 uu t9 H1 locs1 ht hvm hpost hB hz hk hS => ?_)
    rw [ht] at hB
    have hP := hB
    have hD := hD.ad (wm_ad : (WM k b 1 r (nI 0) N F (zb t) KR K (fun i => zb (T i))).map Prod.fst = _)
    generalize H1 = H at hP hS ⊢
    generalize locs1 = locs at hS ⊢
    subst hpost
    exact W.iret (v := 0) hx hb hr (fun t9 ht hW => ⟨⟨_, (1, 0, r, N, t), rfl, Or.inl ⟨rfl, rfl, rfl⟩, atP hP ht⟩, hS.F ht⟩) hS.2.2 d_M_close_17
set_option maxHeartbeats 4000000 in
set_option maxRecDepth 100000 in
theorem m_M_load (l : Launch) (D : va_G) (k : Nat → ClassId) (b : Nat → Nat) (f r d : Int32) (N F : Nat → Int64) (t : Nat → Bool) (KR : Nat → Int32) (K : Nat → Nat → Int64) (T : Nat → Nat → Bool) (o1 p1 : Int32) (sz : Nat) : Met l y_M_load (w_M_load :: TB) rM (va_Pc [.ref (b 0), .int o1, .int p1] (PW D k (WM k b f r d N F (zb t) KR K (fun i => zb (T i))) sz)) (va_Qi (fun (x : Int32) (w : Int32 × (Nat → Bool)) => (¬ okP o1 p1 ∧ x = 0 ∧ w = (1, t)) ∨ (∃ u v : Nat, u < 4 ∧ v < 64 ∧ o1 = nI u ∧ p1 = nI v ∧ x = (if t (u * 64 + v) then 100 else 2100) ∧ w = (0, va_up t (u * 64 + v) true))) (fun w t9 => va_P D wCl (WM k b w.1 r d N F (zb w.2) KR K (fun i => zb (T i))) t9.heap) (va_A (WM k b f r d N F (zb t) KR K (fun i => zb (T i))) sz)) 0 0 (va_A (WM k b f r d N F (zb t) KR K (fun i => zb (T i))) sz) := by
  refine Met.ofW (cc := b_M_load) (maxL := 4) (ret := some .int) (by decide) rfl ?_
  intro p e s m args below meth c s₁ B hml hv
  obtain ⟨rfl, hsz, hP, hK, hD0, hE⟩ := hv
  have hx := B.exec
  have hb := B.bytes
  have hr := B.returns
  have hts0 := atoms_spec (ws := w_M_load :: TB) B.pre
  have hts := fun w (hw : w ∈ TB) => hts0 w (List.mem_cons_of_mem _ hw)
  have hown : s.vm.findClass RM = some m.cls := findClass_of_methodNamed B.named
  have hlocks := B.notSynchronized
  subst hsz
  have hD := hD0.self (sz := s.heap.size)
  generalize hAe : va_A (WM k b f r d N F (zb t) KR K (fun i => zb (T i))) s.heap.size = A at *
  have hA : ∀ q : Nat, s.heap.size ≤ q → A q := fun q h => by rw [← hAe]; exact Or.inr h
  have hS : va_S A s.heap s.heap [] := va_S.rf
  have hl := lv_entry ([.ref (b 0), .int o1, .int p1]) (n := 4) (Nat.le_of_ble_eq_true rfl)
  rw [lg_entry_eq]
  generalize (lg_sl ([.ref (b 0), .int o1, .int p1]) ++ List.replicate (4 - (lg_sl ([.ref (b 0), .int o1, .int p1])).length) Slot.unset).toArray = ls at hl ⊢
  have hl : lv_has ls 4 [(0, .ref (b 0)), (1, .int o1), (2, .int p1)] := hl
  refine lv_aload_n hx hb d_M_load_0 rfl (lv_at hl 0 rfl) ?_
  refine lv_iconst (v := 0) hx hb d_M_load_1 (by decide) ?_
  refine va_put (D := D) (ci := 2) (v := .int 0) (ty := .int) (C := RM) (T := TM) (N := 9) hx hb hts kin_M tM tyM nmM hown hK hP hD hS 0 rfl rfl 0 (by decide) (hts _ kf_M_34) (fun _ h9 => h9) rfl (by decide +kernel) rfl rfl (Nat.le_of_ble_eq_true rfl) d_M_load_2 (fun H locs hP hD hS => ?_)
  have hP : va_P D wCl (WM k b 0 r d N F (zb t) KR K (fun i => zb (T i))) H := hP
  have hD : va_D A (WM k b 0 r d N F (zb t) KR K (fun i => zb (T i))) := hD
  refine lv_aload_n hx hb d_M_load_5 rfl (lv_at hl 0 rfl) ?_
  refine lv_iload_n hx hb d_M_load_6 rfl (lv_at hl 1 rfl) ?_
  refine lv_iload_n hx hb d_M_load_7 rfl (lv_at hl 2 rfl) ?_
  refine vp_callSi (va_runV (As := [.int o1, .int p1]) (rest := []) (C := RM) ⟨hx, hb, hml, hown, hts⟩ (m_M_out l D k b 0 r d N F t KR K T o1 p1 _) (cwV 2 hts (TB_g kl_M_52 ki_M_out ks_M_out kz_M (TB_c kc_M_out)) rfl rfl rfl (by decide +kernel) ⟨Nat.le_of_ble_eq_true rfl, Nat.le_of_ble_eq_true rfl⟩) ⟨PW.bl, va_recv (q := (RM, TM, 9)) (ci := 2) (q0 := 0) hK hP rfl rfl, fun U hU hW => ⟨rfl, PW.go hK hP hD hS hA hE hU hW⟩⟩ rfl rfl hl.1 rfl (lv_room (Nat.le_of_ble_eq_true rfl)) d_M_load_8 ⟨Nat.zero_le _, Nat.zero_le _⟩).run (fun r1 hr1 => ?_)
  refine lv_if_eq (tgt := 20) hx hb d_M_load_11 (by decide) (fun c_11 => ?_) (fun c_11 => ?_)
  · rcases hr1 with ⟨hok, -⟩ | ⟨-, e1⟩
    rotate_left
    · exact absurd (e1.symm.trans c_11) (by decide)
    obtain ⟨u1, v1, hu, hv, rfl, rfl⟩ := hok
    have hc : u1 * 64 + v1 < 256 := by omega
    refine lv_aload_n hx hb d_M_load_20 rfl (lv_at hl 0 rfl) ?_
    refine va_get (D := D) (ci := 2) (v := .ref (b 6)) (C := RM) (T := TM) (N := 9) hx hb hts kin_M hown hK hP 0 rfl rfl 6 (by decide) (hts _ kf_M_30) (fun _ h9 => h9) rfl d_M_load_21 ?_
    refine lv_bipush (v := 64) hx hb d_M_load_24 (by decide) ?_
    refine lv_iload_n hx hb d_M_load_26 rfl (lv_at hl 1 rfl) ?_
    refine lv_imul hx hb d_M_load_27 ?_
    refine lv_iload_n hx hb d_M_load_28 rfl (lv_at hl 2 rfl) ?_
    refine lv_iadd hx hb d_M_load_29 ?_
    rw [mi_c u1 v1]
    refine va_zald hx hb hK hP 6 5 rfl rfl (vp_in_nI hc (by decide)) d_M_load_30 ?_
    rw [nI_clamp (show u1 * 64 + v1 < 2 ^ 31 by omega)]
    refine lv_if_eq (tgt := 39) hx hb d_M_load_31 (by decide) (fun c_31 => ?_) (fun c_31 => ?_)
    · refine lv_sipush (v := 2100) hx hb d_M_load_39 (by decide) ?_
      refine lv_istore_n (lv' := [(3, .int 2100), (0, .ref (b 0)), (1, .int (nI u1)), (2, .int (nI v1))]) hx hb d_M_load_42 rfl hl (by decide) rfl (fun ls hl => ?_)
      refine lv_aload_n hx hb d_M_load_43 rfl (lv_at hl 1 rfl) ?_
      refine va_get (D := D) (ci := 2) (v := .ref (b 6)) (C := RM) (T := TM) (N := 9) hx hb hts kin_M hown hK hP 0 rfl rfl 6 (by decide) (hts _ kf_M_30) (fun _ h9 => h9) rfl d_M_load_44 ?_
      refine lv_bipush (v := 64) hx hb d_M_load_47 (by decide) ?_
      refine lv_iload_n hx hb d_M_load_49 rfl (lv_at hl 2 rfl) ?_
      refine lv_imul hx hb d_M_load_50 ?_
      refine lv_iload_n hx hb d_M_load_51 rfl (lv_at hl 3 rfl) ?_
      refine lv_iadd hx hb d_M_load_52 ?_
      rw [mi_c u1 v1]
      refine lv_iconst (v := 1) hx hb d_M_load_53 (by decide) ?_
      refine va_zast hx hb hK hP hD hS 6 5 rfl rfl (vp_in_nI hc (by decide)) d_M_load_54 (fun H locs hP hD hS => ?_)
      rw [nI_clamp (show u1 * 64 + v1 < 2 ^ 31 by omega), zb_up t (u1 * 64 + v1) true (x := 1) rfl] at hP hD
      have hP : va_P D wCl (WM k b 0 r d N F (zb (va_up t (u1 * 64 + v1) true)) KR K (fun i => zb (T i))) H := hP
      have hD : va_D A (WM k b 0 r d N F (zb (va_up t (u1 * 64 + v1) true)) KR K (fun i => zb (T i))) := hD
      refine lv_iload_n hx hb d_M_load_55 rfl (lv_at hl 0 rfl) ?_
      have er : (2100 : Int32) = (if t (u1 * 64 + v1) then 100 else 2100) := by
        rw [zb_c] at c_31
        cases hq : t (u1 * 64 + v1) <;> rw [hq] at c_31 <;> first | rfl | exact absurd rfl c_31 | exact absurd c_31 (by decide)
      exact W.iret (v := 2100) hx hb hr (fun t9 ht hW => ⟨⟨_, (0, va_up t (u1 * 64 + v1) true), rfl, Or.inr ⟨u1, v1, hu, hv, rfl, rfl, er, rfl⟩, atP hP ht⟩, hS.F ht⟩) hS.2.2 d_M_load_56
    · refine lv_bipush (v := 100) hx hb d_M_load_34 (by decide) ?_
      refine lv_goto (tgt := 42) hx hb d_M_load_36 (by decide) ?_
      refine lv_istore_n (lv' := [(3, .int 100), (0, .ref (b 0)), (1, .int (nI u1)), (2, .int (nI v1))]) hx hb d_M_load_42 rfl hl (by decide) rfl (fun ls hl => ?_)
      refine lv_aload_n hx hb d_M_load_43 rfl (lv_at hl 1 rfl) ?_
      refine va_get (D := D) (ci := 2) (v := .ref (b 6)) (C := RM) (T := TM) (N := 9) hx hb hts kin_M hown hK hP 0 rfl rfl 6 (by decide) (hts _ kf_M_30) (fun _ h9 => h9) rfl d_M_load_44 ?_
      refine lv_bipush (v := 64) hx hb d_M_load_47 (by decide) ?_
      refine lv_iload_n hx hb d_M_load_49 rfl (lv_at hl 2 rfl) ?_
      refine lv_imul hx hb d_M_load_50 ?_
      refine lv_iload_n hx hb d_M_load_51 rfl (lv_at hl 3 rfl) ?_
      refine lv_iadd hx hb d_M_load_52 ?_
      rw [mi_c u1 v1]
      refine lv_iconst (v := 1) hx hb d_M_load_53 (by decide) ?_
      refine va_zast hx hb hK hP hD hS 6 5 rfl rfl (vp_in_nI hc (by decide)) d_M_load_54 (fun H locs hP hD hS => ?_)
      rw [nI_clamp (show u1 * 64 + v1 < 2 ^ 31 by omega), zb_up t (u1 * 64 + v1) true (x := 1) rfl] at hP hD
      have hP : va_P D wCl (WM k b 0 r d N F (zb (va_up t (u1 * 64 + v1) true)) KR K (fun i => zb (T i))) H := hP
      have hD : va_D A (WM k b 0 r d N F (zb (va_up t (u1 * 64 + v1) true)) KR K (fun i => zb (T i))) := hD
      refine lv_iload_n hx hb d_M_load_55 rfl (lv_at hl 0 rfl) ?_
      have er : (100 : Int32) = (if t (u1 * 64 + v1) then 100 else 2100) := by
        rw [zb_c] at c_31
        cases hq : t (u1 * 64 + v1) <;> rw [hq] at c_31 <;> first | rfl | exact absurd rfl c_31 | exact absurd c_31 (by decide)
      exact W.iret (v := 100) hx hb hr (fun t9 ht hW => ⟨⟨_, (0, va_up t (u1 * 64 + v1) true), rfl, Or.inr ⟨u1, v1, hu, hv, rfl, rfl, er, rfl⟩, atP hP ht⟩, hS.F ht⟩) hS.2.2 d_M_load_56
  · rcases hr1 with ⟨-, e1⟩ | ⟨hno, -⟩
    · exact absurd e1 c_11
    refine lv_aload_n hx hb d_M_load_14 rfl (lv_at hl 0 rfl) ?_
    refine lv_iconst (v := 1) hx hb d_M_load_15 (by decide) ?_
    refine va_calli (va_runV (As := [.int 1]) (rest := []) (C := RM) ⟨hx, hb, hml, hown, hts⟩ (m_M_fail l D k b 0 r d N F t KR K T 1 _) (cwV 1 hts (TB_g kl_M_48 ki_M_fail ks_M_fail kz_M (TB_c kc_M_fail)) rfl rfl rfl (by decide +kernel) ⟨Nat.le_of_ble_eq_true rfl, Nat.le_of_ble_eq_true rfl⟩) ⟨PW.bl, va_recv (q := (RM, TM, 9)) (ci := 2) (q0 := 0) hK hP rfl rfl, fun U hU hW => ⟨rfl, PW.go hK hP hD hS hA hE hU hW⟩⟩ rfl rfl hl.1 rfl (lv_room (Nat.le_of_ble_eq_true rfl)) d_M_load_16 ⟨Nat.zero_le _, Nat.zero_le _⟩) hS (fun q _ h => cut_F hD hS hA q h) (cut_F hD hS hA) (fun r9 uu t9 H1 locs1 ht hvm hpost hB hz hk hS => ?_)
    rw [ht] at hB
    have hP := hB
    have hD := hD.ad (wm_ad : (WM k b 1 r d N F (zb t) KR K (fun i => zb (T i))).map Prod.fst = _)
    generalize H1 = H at hP hS ⊢
    generalize locs1 = locs at hS ⊢
    subst hpost
    exact W.iret (v := 0) hx hb hr (fun t9 ht hW => ⟨⟨_, (1, t), rfl, Or.inl ⟨hno, rfl, rfl⟩, atP hP ht⟩, hS.F ht⟩) hS.2.2 d_M_load_19
set_option maxHeartbeats 4000000 in
set_option maxRecDepth 100000 in
theorem m_M_held (l : Launch) (D : va_G) (k : Nat → ClassId) (b : Nat → Nat) (f r d : Int32) (N F : Nat → Int64) (t : Nat → Bool) (KR : Nat → Int32) (K : Nat → Nat → Int64) (T : Nat → Nat → Bool) (o1 p1 z : Int32) (sz : Nat) : Met l y_M_held (w_M_held :: TB) rM (va_Pc [.ref (b 0), .int o1, .int p1, .int z] (PW D k (WM k b f r d N F (zb t) KR K (fun i => zb (T i))) sz)) (va_Ql (fun (x : Int64) (w : Int32) => (¬ okP o1 p1 ∧ w = 1) ∨ (∃ u v : Nat, u < 4 ∧ v < 64 ∧ o1 = nI u ∧ p1 = nI v ∧ x = (if z = 0 then N (u * 64 + v) else F (u * 64 + v)) ∧ w = 0)) (fun w t9 => va_P D wCl (WM k b w r d N F (zb t) KR K (fun i => zb (T i))) t9.heap) (va_A (WM k b f r d N F (zb t) KR K (fun i => zb (T i))) sz)) 0 0 (va_A (WM k b f r d N F (zb t) KR K (fun i => zb (T i))) sz) := by
  refine Met.ofW (cc := b_M_held) (maxL := 4) (ret := some .long) (by decide) rfl ?_
  intro p e s m args below meth c s₁ B hml hv
  obtain ⟨rfl, hsz, hP, hK, hD0, hE⟩ := hv
  have hx := B.exec
  have hb := B.bytes
  have hr := B.returns
  have hts0 := atoms_spec (ws := w_M_held :: TB) B.pre
  have hts := fun w (hw : w ∈ TB) => hts0 w (List.mem_cons_of_mem _ hw)
  have hown : s.vm.findClass RM = some m.cls := findClass_of_methodNamed B.named
  have hlocks := B.notSynchronized
  subst hsz
  have hD := hD0.self (sz := s.heap.size)
  generalize hAe : va_A (WM k b f r d N F (zb t) KR K (fun i => zb (T i))) s.heap.size = A at *
  have hA : ∀ q : Nat, s.heap.size ≤ q → A q := fun q h => by rw [← hAe]; exact Or.inr h
  have hS : va_S A s.heap s.heap [] := va_S.rf
  have hl := lv_entry ([.ref (b 0), .int o1, .int p1, .int z]) (n := 4) (Nat.le_of_ble_eq_true rfl)
  rw [lg_entry_eq]
  generalize (lg_sl ([.ref (b 0), .int o1, .int p1, .int z]) ++ List.replicate (4 - (lg_sl ([.ref (b 0), .int o1, .int p1, .int z])).length) Slot.unset).toArray = ls at hl ⊢
  have hl : lv_has ls 4 [(0, .ref (b 0)), (1, .int o1), (2, .int p1), (3, .int z)] := hl
  refine lv_aload_n hx hb d_M_held_0 rfl (lv_at hl 0 rfl) ?_
  refine lv_iconst (v := 0) hx hb d_M_held_1 (by decide) ?_
  refine va_put (D := D) (ci := 2) (v := .int 0) (ty := .int) (C := RM) (T := TM) (N := 9) hx hb hts kin_M tM tyM nmM hown hK hP hD hS 0 rfl rfl 0 (by decide) (hts _ kf_M_34) (fun _ h9 => h9) rfl (by decide +kernel) rfl rfl (Nat.le_of_ble_eq_true rfl) d_M_held_2 (fun H locs hP hD hS => ?_)
  have hP : va_P D wCl (WM k b 0 r d N F (zb t) KR K (fun i => zb (T i))) H := hP
  have hD : va_D A (WM k b 0 r d N F (zb t) KR K (fun i => zb (T i))) := hD
  refine lv_aload_n hx hb d_M_held_5 rfl (lv_at hl 0 rfl) ?_
  refine lv_iload_n hx hb d_M_held_6 rfl (lv_at hl 1 rfl) ?_
  refine lv_iload_n hx hb d_M_held_7 rfl (lv_at hl 2 rfl) ?_
  refine vp_callSi (va_runV (As := [.int o1, .int p1]) (rest := []) (C := RM) ⟨hx, hb, hml, hown, hts⟩ (m_M_out l D k b 0 r d N F t KR K T o1 p1 _) (cwV 2 hts (TB_g kl_M_52 ki_M_out ks_M_out kz_M (TB_c kc_M_out)) rfl rfl rfl (by decide +kernel) ⟨Nat.le_of_ble_eq_true rfl, Nat.le_of_ble_eq_true rfl⟩) ⟨PW.bl, va_recv (q := (RM, TM, 9)) (ci := 2) (q0 := 0) hK hP rfl rfl, fun U hU hW => ⟨rfl, PW.go hK hP hD hS hA hE hU hW⟩⟩ rfl rfl hl.1 rfl (lv_room (Nat.le_of_ble_eq_true rfl)) d_M_held_8 ⟨Nat.zero_le _, Nat.zero_le _⟩).run (fun r1 hr1 => ?_)
  refine lv_if_eq (tgt := 21) hx hb d_M_held_11 (by decide) (fun c_11 => ?_) (fun c_11 => ?_)
  · rcases hr1 with ⟨hok, -⟩ | ⟨-, e1⟩
    rotate_left
    · exact absurd (e1.symm.trans c_11) (by decide)
    obtain ⟨u1, v1, hu, hv, rfl, rfl⟩ := hok
    have hc : u1 * 64 + v1 < 256 := by omega
    refine lv_iload_n hx hb d_M_held_21 rfl (lv_at hl 3 rfl) ?_
    refine lv_if_eq (tgt := 39) hx hb d_M_held_22 (by decide) (fun c_22 => ?_) (fun c_22 => ?_)
    · refine lv_aload_n hx hb d_M_held_39 rfl (lv_at hl 0 rfl) ?_
      refine va_get (D := D) (ci := 2) (v := .ref (b 4)) (C := RM) (T := TM) (N := 9) hx hb hts kin_M hown hK hP 0 rfl rfl 4 (by decide) (hts _ kf_M_23) (fun _ h9 => h9) rfl d_M_held_40 ?_
      refine lv_bipush (v := 64) hx hb d_M_held_43 (by decide) ?_
      refine lv_iload_n hx hb d_M_held_45 rfl (lv_at hl 1 rfl) ?_
      refine lv_imul hx hb d_M_held_46 ?_
      refine lv_iload_n hx hb d_M_held_47 rfl (lv_at hl 2 rfl) ?_
      refine lv_iadd hx hb d_M_held_48 ?_
      rw [mi_c u1 v1]
      refine va_lald hx hb hK hP 4 0 rfl rfl (vp_in_nI hc (by decide)) d_M_held_49 ?_
      rw [nI_clamp (show u1 * 64 + v1 < 2 ^ 31 by omega)]
      exact W.lret (v := N (u1 * 64 + v1)) hx hb hr (fun t9 ht hW => ⟨⟨_, 0, rfl, Or.inr ⟨u1, v1, hu, hv, rfl, rfl, (if_pos c_22).symm, rfl⟩, atP hP ht⟩, hS.F ht⟩) hS.2.2 d_M_held_50
    · refine lv_aload_n hx hb d_M_held_25 rfl (lv_at hl 0 rfl) ?_
      refine va_get (D := D) (ci := 2) (v := .ref (b 5)) (C := RM) (T := TM) (N := 9) hx hb hts kin_M hown hK hP 0 rfl rfl 5 (by decide) (hts _ kf_M_27) (fun _ h9 => h9) rfl d_M_held_26 ?_
      refine lv_bipush (v := 64) hx hb d_M_held_29 (by decide) ?_
      refine lv_iload_n hx hb d_M_held_31 rfl (lv_at hl 1 rfl) ?_
      refine lv_imul hx hb d_M_held_32 ?_
      refine lv_iload_n hx hb d_M_held_33 rfl (lv_at hl 2 rfl) ?_
      refine lv_iadd hx hb d_M_held_34 ?_
      rw [mi_c u1 v1]
      refine va_lald hx hb hK hP 5 0 rfl rfl (vp_in_nI hc (by decide)) d_M_held_35 ?_
      rw [nI_clamp (show u1 * 64 + v1 < 2 ^ 31 by omega)]
      refine lv_goto (tgt := 50) hx hb d_M_held_36 (by decide) ?_
      exact W.lret (v := F (u1 * 64 + v1)) hx hb hr (fun t9 ht hW => ⟨⟨_, 0, rfl, Or.inr ⟨u1, v1, hu, hv, rfl, rfl, (if_neg c_22).symm, rfl⟩, atP hP ht⟩, hS.F ht⟩) hS.2.2 d_M_held_50
  · rcases hr1 with ⟨-, e1⟩ | ⟨hno, -⟩
    · exact absurd e1 c_11
    refine lv_aload_n hx hb d_M_held_14 rfl (lv_at hl 0 rfl) ?_
    refine lv_iconst (v := 1) hx hb d_M_held_15 (by decide) ?_
    refine va_calli (va_runV (As := [.int 1]) (rest := []) (C := RM) ⟨hx, hb, hml, hown, hts⟩ (m_M_fail l D k b 0 r d N F t KR K T 1 _) (cwV 1 hts (TB_g kl_M_48 ki_M_fail ks_M_fail kz_M (TB_c kc_M_fail)) rfl rfl rfl (by decide +kernel) ⟨Nat.le_of_ble_eq_true rfl, Nat.le_of_ble_eq_true rfl⟩) ⟨PW.bl, va_recv (q := (RM, TM, 9)) (ci := 2) (q0 := 0) hK hP rfl rfl, fun U hU hW => ⟨rfl, PW.go hK hP hD hS hA hE hU hW⟩⟩ rfl rfl hl.1 rfl (lv_room (Nat.le_of_ble_eq_true rfl)) d_M_held_16 ⟨Nat.zero_le _, Nat.zero_le _⟩) hS (fun q _ h => cut_F hD hS hA q h) (cut_F hD hS hA) (fun r9 uu t9 H1 locs1 ht hvm hpost hB hz hk hS => ?_)
    rw [ht] at hB
    have hP := hB
    have hD := hD.ad (wm_ad : (WM k b 1 r d N F (zb t) KR K (fun i => zb (T i))).map Prod.fst = _)
    generalize H1 = H at hP hS ⊢
    generalize locs1 = locs at hS ⊢
    subst hpost
    refine lv_i2l hx hb d_M_held_19 rfl ?_
    exact W.lret (v := ((0) : Int32).toInt64) hx hb hr (fun t9 ht hW => ⟨⟨_, 1, rfl, Or.inl ⟨hno, rfl⟩, atP hP ht⟩, hS.F ht⟩) hS.2.2 d_M_held_20
set_option maxHeartbeats 4000000 in
set_option maxRecDepth 100000 in
theorem m_M_touched (l : Launch) (D : va_G) (k : Nat → ClassId) (b : Nat → Nat) (f r d : Int32) (N F : Nat → Int64) (t : Nat → Bool) (KR : Nat → Int32) (K : Nat → Nat → Int64) (T : Nat → Nat → Bool) (o1 p1 : Int32) (sz : Nat) : Met l y_M_touched (w_M_touched :: TB) rM (va_Pc [.ref (b 0), .int o1, .int p1] (PW D k (WM k b f r d N F (zb t) KR K (fun i => zb (T i))) sz)) (va_Qi (fun (x : Int32) (w : Int32) => (¬ okP o1 p1 ∧ w = 1) ∨ (∃ u v : Nat, u < 4 ∧ v < 64 ∧ o1 = nI u ∧ p1 = nI v ∧ x = (if t (u * 64 + v) then 1 else 0) ∧ w = 0)) (fun w t9 => va_P D wCl (WM k b w r d N F (zb t) KR K (fun i => zb (T i))) t9.heap) (va_A (WM k b f r d N F (zb t) KR K (fun i => zb (T i))) sz)) 0 0 (va_A (WM k b f r d N F (zb t) KR K (fun i => zb (T i))) sz) := by
  refine Met.ofW (cc := b_M_touched) (maxL := 3) (ret := some .boolean) (by decide) rfl ?_
  intro p e s m args below meth c s₁ B hml hv
  obtain ⟨rfl, hsz, hP, hK, hD0, hE⟩ := hv
  have hx := B.exec
  have hb := B.bytes
  have hr := B.returns
  have hts0 := atoms_spec (ws := w_M_touched :: TB) B.pre
  have hts := fun w (hw : w ∈ TB) => hts0 w (List.mem_cons_of_mem _ hw)
  have hown : s.vm.findClass RM = some m.cls := findClass_of_methodNamed B.named
  have hlocks := B.notSynchronized
  subst hsz
  have hD := hD0.self (sz := s.heap.size)
  generalize hAe : va_A (WM k b f r d N F (zb t) KR K (fun i => zb (T i))) s.heap.size = A at *
  have hA : ∀ q : Nat, s.heap.size ≤ q → A q := fun q h => by rw [← hAe]; exact Or.inr h
  have hS : va_S A s.heap s.heap [] := va_S.rf
  have hl := lv_entry ([.ref (b 0), .int o1, .int p1]) (n := 3) (Nat.le_of_ble_eq_true rfl)
  rw [lg_entry_eq]
  generalize (lg_sl ([.ref (b 0), .int o1, .int p1]) ++ List.replicate (3 - (lg_sl ([.ref (b 0), .int o1, .int p1])).length) Slot.unset).toArray = ls at hl ⊢
  have hl : lv_has ls 3 [(0, .ref (b 0)), (1, .int o1), (2, .int p1)] := hl
  refine lv_aload_n hx hb d_M_touched_0 rfl (lv_at hl 0 rfl) ?_
  refine lv_iconst (v := 0) hx hb d_M_touched_1 (by decide) ?_
  refine va_put (D := D) (ci := 2) (v := .int 0) (ty := .int) (C := RM) (T := TM) (N := 9) hx hb hts kin_M tM tyM nmM hown hK hP hD hS 0 rfl rfl 0 (by decide) (hts _ kf_M_34) (fun _ h9 => h9) rfl (by decide +kernel) rfl rfl (Nat.le_of_ble_eq_true rfl) d_M_touched_2 (fun H locs hP hD hS => ?_)
  have hP : va_P D wCl (WM k b 0 r d N F (zb t) KR K (fun i => zb (T i))) H := hP
  have hD : va_D A (WM k b 0 r d N F (zb t) KR K (fun i => zb (T i))) := hD
  refine lv_aload_n hx hb d_M_touched_5 rfl (lv_at hl 0 rfl) ?_
  refine lv_iload_n hx hb d_M_touched_6 rfl (lv_at hl 1 rfl) ?_
  refine lv_iload_n hx hb d_M_touched_7 rfl (lv_at hl 2 rfl) ?_
  refine vp_callSi (va_runV (As := [.int o1, .int p1]) (rest := []) (C := RM) ⟨hx, hb, hml, hown, hts⟩ (m_M_out l D k b 0 r d N F t KR K T o1 p1 _) (cwV 2 hts (TB_g kl_M_52 ki_M_out ks_M_out kz_M (TB_c kc_M_out)) rfl rfl rfl (by decide +kernel) ⟨Nat.le_of_ble_eq_true rfl, Nat.le_of_ble_eq_true rfl⟩) ⟨PW.bl, va_recv (q := (RM, TM, 9)) (ci := 2) (q0 := 0) hK hP rfl rfl, fun U hU hW => ⟨rfl, PW.go hK hP hD hS hA hE hU hW⟩⟩ rfl rfl hl.1 rfl (lv_room (Nat.le_of_ble_eq_true rfl)) d_M_touched_8 ⟨Nat.zero_le _, Nat.zero_le _⟩).run (fun r1 hr1 => ?_)
  refine lv_if_eq (tgt := 30) hx hb d_M_touched_11 (by decide) (fun c_11 => ?_) (fun c_11 => ?_)
  · rcases hr1 with ⟨hok, -⟩ | ⟨-, e1⟩
    rotate_left
    · exact absurd (e1.symm.trans c_11) (by decide)
    obtain ⟨u1, v1, hu, hv, rfl, rfl⟩ := hok
    have hc : u1 * 64 + v1 < 256 := by omega
    refine lv_aload_n hx hb d_M_touched_30 rfl (lv_at hl 0 rfl) ?_
    refine va_get (D := D) (ci := 2) (v := .ref (b 6)) (C := RM) (T := TM) (N := 9) hx hb hts kin_M hown hK hP 0 rfl rfl 6 (by decide) (hts _ kf_M_30) (fun _ h9 => h9) rfl d_M_touched_31 ?_
    refine lv_bipush (v := 64) hx hb d_M_touched_34 (by decide) ?_
    refine lv_iload_n hx hb d_M_touched_36 rfl (lv_at hl 1 rfl) ?_
    refine lv_imul hx hb d_M_touched_37 ?_
    refine lv_iload_n hx hb d_M_touched_38 rfl (lv_at hl 2 rfl) ?_
    refine lv_iadd hx hb d_M_touched_39 ?_
    rw [mi_c u1 v1]
    refine va_zald hx hb hK hP 6 5 rfl rfl (vp_in_nI hc (by decide)) d_M_touched_40 ?_
    rw [nI_clamp (show u1 * 64 + v1 < 2 ^ 31 by omega)]
    exact W.zret (v := zb t (u1 * 64 + v1)) hx hb hr (by rw [zb_c]; split <;> rfl) (fun t9 ht hW => ⟨⟨_, 0, rfl, Or.inr ⟨u1, v1, hu, hv, rfl, rfl, rfl, rfl⟩, atP hP ht⟩, hS.F ht⟩) hS.2.2 d_M_touched_41
  · rcases hr1 with ⟨-, e1⟩ | ⟨hno, -⟩
    · exact absurd e1 c_11
    refine lv_aload_n hx hb d_M_touched_14 rfl (lv_at hl 0 rfl) ?_
    refine lv_iconst (v := 1) hx hb d_M_touched_15 (by decide) ?_
    refine va_calli (va_runV (As := [.int 1]) (rest := []) (C := RM) ⟨hx, hb, hml, hown, hts⟩ (m_M_fail l D k b 0 r d N F t KR K T 1 _) (cwV 1 hts (TB_g kl_M_48 ki_M_fail ks_M_fail kz_M (TB_c kc_M_fail)) rfl rfl rfl (by decide +kernel) ⟨Nat.le_of_ble_eq_true rfl, Nat.le_of_ble_eq_true rfl⟩) ⟨PW.bl, va_recv (q := (RM, TM, 9)) (ci := 2) (q0 := 0) hK hP rfl rfl, fun U hU hW => ⟨rfl, PW.go hK hP hD hS hA hE hU hW⟩⟩ rfl rfl hl.1 rfl (lv_room (Nat.le_of_ble_eq_true rfl)) d_M_touched_16 ⟨Nat.zero_le _, Nat.zero_le _⟩) hS (fun q _ h => cut_F hD hS hA q h) (cut_F hD hS hA) (fun r9 uu t9 H1 locs1 ht hvm hpost hB hz hk hS => ?_)
    rw [ht] at hB
    have hP := hB
    have hD := hD.ad (wm_ad : (WM k b 1 r d N F (zb t) KR K (fun i => zb (T i))).map Prod.fst = _)
    generalize H1 = H at hP hS ⊢
    generalize locs1 = locs at hS ⊢
    subst hpost
    refine lv_if_le (tgt := 26) hx hb d_M_touched_19 (by decide) (fun c_19 => ?_) (fun c_19 => ?_)
    · refine lv_iconst (v := 0) hx hb d_M_touched_26 (by decide) ?_
      refine lv_goto (tgt := 41) hx hb d_M_touched_27 (by decide) ?_
      exact W.zret (v := 0) hx hb hr rfl (fun t9 ht hW => ⟨⟨_, 1, rfl, Or.inl ⟨hno, rfl⟩, atP hP ht⟩, hS.F ht⟩) hS.2.2 d_M_touched_41
    · exact absurd (by decide) c_19
set_option maxHeartbeats 4000000 in
set_option maxRecDepth 100000 in
theorem m_M_count (l : Launch) (D : va_G) (k : Nat → ClassId) (b : Nat → Nat) (f r d : Int32) (N F : Nat → Int64) (t : Nat → Bool) (KR : Nat → Int32) (K : Nat → Nat → Int64) (T : Nat → Nat → Bool) (z : Int32) (sz : Nat) : Met l y_M_count (w_M_count :: TB) rM (va_Pc [.ref (b 0), .int z] (PW D k (WM k b f r d N F (zb t) KR K (fun i => zb (T i))) sz)) (va_Qi (fun (x : Int32) (w : Int32) => (¬ (∃ q : Nat, q < 4 ∧ z = nI q) ∧ w = 1) ∨ (∃ q : Nat, q < 4 ∧ z = nI q ∧ w = 0 ∧ (q = 0 → x = r) ∧ (q = 1 → x = nI (cntb t 256)) ∧ (q = 2 → x = d) ∧ (q = 3 → x = nI (cnt N 256)))) (fun w t9 => va_P D wCl (WM k b w r d N F (zb t) KR K (fun i => zb (T i))) t9.heap) (va_A (WM k b f r d N F (zb t) KR K (fun i => zb (T i))) sz)) 0 0 (va_A (WM k b f r d N F (zb t) KR K (fun i => zb (T i))) sz) := by
  refine Met.ofW (cc := b_M_count) (maxL := 4) (ret := some .int) (by decide) rfl ?_
  intro p e s m args below meth c s₁ B hml hv
  obtain ⟨rfl, hsz, hP, hK, hD0, hE⟩ := hv
  have hx := B.exec
  have hb := B.bytes
  have hr := B.returns
  have hts0 := atoms_spec (ws := w_M_count :: TB) B.pre
  have hts := fun w (hw : w ∈ TB) => hts0 w (List.mem_cons_of_mem _ hw)
  have hown : s.vm.findClass RM = some m.cls := findClass_of_methodNamed B.named
  have hlocks := B.notSynchronized
  subst hsz
  have hD := hD0.self (sz := s.heap.size)
  generalize hAe : va_A (WM k b f r d N F (zb t) KR K (fun i => zb (T i))) s.heap.size = A at *
  have hA : ∀ q : Nat, s.heap.size ≤ q → A q := fun q h => by rw [← hAe]; exact Or.inr h
  have hS : va_S A s.heap s.heap [] := va_S.rf
  have hl := lv_entry ([.ref (b 0), .int z]) (n := 4) (Nat.le_of_ble_eq_true rfl)
  rw [lg_entry_eq]
  generalize (lg_sl ([.ref (b 0), .int z]) ++ List.replicate (4 - (lg_sl ([.ref (b 0), .int z])).length) Slot.unset).toArray = ls at hl ⊢
  have hl : lv_has ls 4 [(0, .ref (b 0)), (1, .int z)] := hl
  refine lv_aload_n hx hb d_M_count_0 rfl (lv_at hl 0 rfl) ?_
  refine lv_iconst (v := 0) hx hb d_M_count_1 (by decide) ?_
  refine va_put (D := D) (ci := 2) (v := .int 0) (ty := .int) (C := RM) (T := TM) (N := 9) hx hb hts kin_M tM tyM nmM hown hK hP hD hS 0 rfl rfl 0 (by decide) (hts _ kf_M_34) (fun _ h9 => h9) rfl (by decide +kernel) rfl rfl (Nat.le_of_ble_eq_true rfl) d_M_count_2 (fun H locs hP hD hS => ?_)
  have hP : va_P D wCl (WM k b 0 r d N F (zb t) KR K (fun i => zb (T i))) H := hP
  have hD : va_D A (WM k b 0 r d N F (zb t) KR K (fun i => zb (T i))) := hD
  refine lv_iload_n hx hb d_M_count_5 rfl (lv_at hl 1 rfl) ?_
  refine lv_if_lt (tgt := 14) hx hb d_M_count_6 (by decide) (fun c_6 => ?_) (fun c_6 => ?_)
  · refine lv_aload_n hx hb d_M_count_14 rfl (lv_at hl 0 rfl) ?_
    refine lv_iconst (v := 1) hx hb d_M_count_15 (by decide) ?_
    refine va_calli (va_runV (As := [.int 1]) (rest := []) (C := RM) ⟨hx, hb, hml, hown, hts⟩ (m_M_fail l D k b 0 r d N F t KR K T 1 _) (cwV 1 hts (TB_g kl_M_48 ki_M_fail ks_M_fail kz_M (TB_c kc_M_fail)) rfl rfl rfl (by decide +kernel) ⟨Nat.le_of_ble_eq_true rfl, Nat.le_of_ble_eq_true rfl⟩) ⟨PW.bl, va_recv (q := (RM, TM, 9)) (ci := 2) (q0 := 0) hK hP rfl rfl, fun U hU hW => ⟨rfl, PW.go hK hP hD hS hA hE hU hW⟩⟩ rfl rfl hl.1 rfl (lv_room (Nat.le_of_ble_eq_true rfl)) d_M_count_16 ⟨Nat.zero_le _, Nat.zero_le _⟩) hS (fun q _ h => cut_F hD hS hA q h) (cut_F hD hS hA) (fun r9 uu t9 H1 locs1 ht hvm hpost hB hz hk hS => ?_)
    rw [ht] at hB
    have hP := hB
    have hD := hD.ad (wm_ad : (WM k b 1 r d N F (zb t) KR K (fun i => zb (T i))).map Prod.fst = _)
    generalize H1 = H at hP hS ⊢
    generalize locs1 = locs at hS ⊢
    subst hpost
    exact W.iret (v := 0) hx hb hr (fun t9 ht hW => ⟨⟨_, 1, rfl, Or.inl ⟨fun ⟨q, hq, e⟩ => nI_pos (show q < 2 ^ 31 by omega) (e ▸ c_6), rfl⟩, atP hP ht⟩, hS.F ht⟩) hS.2.2 d_M_count_19
  · refine lv_iload_n hx hb d_M_count_9 rfl (lv_at hl 1 rfl) ?_
    refine lv_iconst (v := 3) hx hb d_M_count_10 (by decide) ?_
    refine lv_icmp_le (tgt := 20) hx hb d_M_count_11 (by decide) (fun c_11 => ?_) (fun c_11 => ?_)
    · obtain ⟨q, hq, ez⟩ : ∃ q : Nat, q < 4 ∧ z = nI q := by
        obtain ⟨q, hq, e⟩ := nI_of c_6
        refine ⟨q, ?_, e⟩
        rcases Nat.lt_or_ge q 4 with h | h
        · exact h
        · exact absurd (show nI q ≤ nI 3 from e ▸ c_11) (nI_ge (by omega) hq)
      refine lv_iconst (v := 0) hx hb d_M_count_20 (by decide) ?_
      refine lv_istore_n (lv' := [(2, .int 0), (0, .ref (b 0)), (1, .int z)]) hx hb d_M_count_21 rfl hl (by decide) rfl (fun ls hl => ?_)
      refine lv_iconst (v := 0) hx hb d_M_count_22 (by decide) ?_
      refine lv_istore_n (lv' := [(3, .int 0), (2, .int 0), (0, .ref (b 0)), (1, .int z)]) hx hb d_M_count_23 rfl hl (by decide) rfl (fun ls hl => ?_)
      generalize H = H9 at hP hD hS ⊢
      generalize locs = locs9 at hS ⊢
      generalize hRR : (headSpec (w_M_count :: TB) rM).room = RR
      generalize hQQ : MQ below (va_Qi (fun (x : Int32) (w : Int32) => (¬ (∃ q : Nat, q < 4 ∧ z = nI q) ∧ w = 1) ∨ (∃ q : Nat, q < 4 ∧ z = nI q ∧ w = 0 ∧ (q = 0 → x = r) ∧ (q = 1 → x = nI (cntb t 256)) ∧ (q = 2 → x = d) ∧ (q = 3 → x = nI (cnt N 256)))) (fun w t9 => va_P D wCl (WM k b w r d N F (zb t) KR K (fun i => zb (T i))) t9.heap) A) [.ref (b 0), .int z].toArray s 0 0 A = QQ
      have loop : ∀ (n j : Nat), j ≤ 256 → 257 ≤ j + n → ∀ (ls : Array Slot), lv_has ls 4 [(2, .int (nI (cntb t j))), (3, .int (nI j)), (1, .int z), (0, .ref (b 0))] → W p l e RR s m [.ref (b 0), .int z].toArray below meth c H9 locs9 0 0 QQ (F0 m 24 ls []) := by
        intro n
        induction n with
        | zero =>
          intro j h1 h2
          exact absurd h2 (by omega)
        | succ n ih =>
          intro j hj hjn ls hl
          refine lv_iload_n hx hb d_M_count_24 rfl (lv_at hl 1 rfl) ?_
          refine lv_sipush (v := 256) hx hb d_M_count_25 (by decide) ?_
          refine lv_icmp_ge (tgt := 54) hx hb d_M_count_28 (by decide) (fun c_28 => ?_) (fun c_28 => ?_)
          · have hj : j = 256 := by
              rcases Nat.lt_or_ge j 256 with q | q
              · exact absurd c_28 (nI_ge q (by decide))
              · omega
            subst hj
            subst hRR hQQ
            refine lv_iload_n hx hb d_M_count_54 rfl (lv_at hl 2 rfl) ?_
            refine lv_if_ne (tgt := 65) hx hb d_M_count_55 (by decide) (fun c_55 => ?_) (fun c_55 => ?_)
            · have hq0 : ¬ q = 0 := fun h => c_55 (by rw [ez, h]; rfl)
              refine lv_iload_n hx hb d_M_count_65 rfl (lv_at hl 2 rfl) ?_
              refine lv_iconst (v := 1) hx hb d_M_count_66 (by decide) ?_
              refine lv_icmp_ne (tgt := 74) hx hb d_M_count_67 (by decide) (fun c_67 => ?_) (fun c_67 => ?_)
              · have hq1 : ¬ q = 1 := fun h => c_67 (by rw [ez, h]; rfl)
                refine lv_iload_n hx hb d_M_count_74 rfl (lv_at hl 2 rfl) ?_
                refine lv_iconst (v := 2) hx hb d_M_count_75 (by decide) ?_
                refine lv_icmp_ne (tgt := 86) hx hb d_M_count_76 (by decide) (fun c_76 => ?_) (fun c_76 => ?_)
                · have hq2 : ¬ q = 2 := fun h => c_76 (by rw [ez, h]; rfl)
                  refine lv_aload_n hx hb d_M_count_86 rfl (lv_at hl 3 rfl) ?_
                  refine vp_callSi (va_runV (As := []) (rest := []) (C := RM) ⟨hx, hb, hml, hown, hts⟩ (m_M_filled l D k b 0 r d N F t KR K T _) (cwV 0 hts (TB_g kl_M_44 ki_M_filled ks_M_filled kz_M (TB_c kc_M_filled)) rfl rfl rfl (by decide +kernel) ⟨Nat.le_of_ble_eq_true rfl, Nat.le_of_ble_eq_true rfl⟩) ⟨PW.bl, va_recv (q := (RM, TM, 9)) (ci := 2) (q0 := 0) hK hP rfl rfl, fun U hU hW => ⟨rfl, PW.go hK hP hD hS hA hE hU hW⟩⟩ rfl rfl hl.1 rfl (lv_room (Nat.le_of_ble_eq_true rfl)) d_M_count_87 ⟨Nat.zero_le _, Nat.zero_le _⟩).run (fun r1 hr1 => ?_)
                  exact W.iret (v := r1) hx hb hr (fun t9 ht hW => ⟨⟨_, 0, rfl, Or.inr ⟨q, hq, ez, rfl, fun h => absurd h hq0, fun h => absurd h hq1, fun h => absurd h hq2, fun _ => hr1⟩, atP hP ht⟩, hS.F ht⟩) hS.2.2 d_M_count_90
                · have hq2 : q = 2 := (nI_eq (by omega) (by decide)).mp (ez.symm.trans c_76)
                  refine lv_aload_n hx hb d_M_count_79 rfl (lv_at hl 3 rfl) ?_
                  refine va_get (D := D) (ci := 2) (v := .int d) (C := RM) (T := TM) (N := 9) hx hb hts kin_M hown hK hP 0 rfl rfl 8 (by decide) (hts _ kf_M_41) (fun _ h9 => h9) rfl d_M_count_80 ?_
                  refine lv_goto (tgt := 90) hx hb d_M_count_83 (by decide) ?_
                  exact W.iret (v := d) hx hb hr (fun t9 ht hW => ⟨⟨_, 0, rfl, Or.inr ⟨q, hq, ez, rfl, fun h => absurd h hq0, fun h => absurd h hq1, fun _ => rfl, fun h => absurd h (by omega)⟩, atP hP ht⟩, hS.F ht⟩) hS.2.2 d_M_count_90
              · have hq1 : q = 1 := (nI_eq (by omega) (by decide)).mp (ez.symm.trans c_67)
                refine lv_iload_n hx hb d_M_count_70 rfl (lv_at hl 0 rfl) ?_
                refine lv_goto (tgt := 90) hx hb d_M_count_71 (by decide) ?_
                exact W.iret (v := nI (cntb t 256)) hx hb hr (fun t9 ht hW => ⟨⟨_, 0, rfl, Or.inr ⟨q, hq, ez, rfl, fun h => absurd h hq0, fun _ => rfl, fun h => absurd h (by omega), fun h => absurd h (by omega)⟩, atP hP ht⟩, hS.F ht⟩) hS.2.2 d_M_count_90
            · have hq0 : q = 0 := (nI_eq (by omega) (by decide)).mp (ez.symm.trans c_55)
              refine lv_aload_n hx hb d_M_count_58 rfl (lv_at hl 3 rfl) ?_
              refine va_get (D := D) (ci := 2) (v := .int r) (C := RM) (T := TM) (N := 9) hx hb hts kin_M hown hK hP 0 rfl rfl 7 (by decide) (hts _ kf_M_38) (fun _ h9 => h9) rfl d_M_count_59 ?_
              refine lv_goto (tgt := 90) hx hb d_M_count_62 (by decide) ?_
              exact W.iret (v := r) hx hb hr (fun t9 ht hW => ⟨⟨_, 0, rfl, Or.inr ⟨q, hq, ez, rfl, fun _ => rfl, fun h => absurd h (by omega), fun h => absurd h (by omega), fun h => absurd h (by omega)⟩, atP hP ht⟩, hS.F ht⟩) hS.2.2 d_M_count_90
          · have hlt : j < 256 := by
              rcases Nat.lt_or_ge j 256 with q | q
              · exact q
              · exact absurd (nI_le q (by omega)) c_28
            refine lv_iload_n hx hb d_M_count_31 rfl (lv_at hl 0 rfl) ?_
            refine lv_aload_n hx hb d_M_count_32 rfl (lv_at hl 3 rfl) ?_
            refine va_get (D := D) (ci := 2) (v := .ref (b 6)) (C := RM) (T := TM) (N := 9) hx hb hts kin_M hown hK hP 0 rfl rfl 6 (by decide) (hts _ kf_M_30) (fun _ h9 => h9) rfl d_M_count_33 ?_
            refine lv_iload_n hx hb d_M_count_36 rfl (lv_at hl 1 rfl) ?_
            refine va_zald hx hb hK hP 6 5 rfl rfl (vp_in_nI hlt (by decide)) d_M_count_37 ?_
            rw [nI_clamp (show j < 2 ^ 31 by omega)]
            refine lv_if_eq (tgt := 45) hx hb d_M_count_38 (by decide) (fun c_38 => ?_) (fun c_38 => ?_)
            · have hq9 : t j = false := by
                rw [zb_c] at c_38
                cases h9 : t j <;> rw [h9] at c_38 <;> first | rfl | exact absurd rfl c_38 | exact absurd c_38 (by decide)
              refine lv_iconst (v := 0) hx hb d_M_count_45 (by decide) ?_
              refine lv_iadd hx hb d_M_count_46 ?_
              refine lv_istore_n (lv' := [(2, .int ((nI (cntb t j)) + (0))), (3, .int (nI j)), (1, .int z), (0, .ref (b 0))]) hx hb d_M_count_47 rfl hl (by decide) rfl (fun ls hl => ?_)
              refine lv_iinc (v := (nI j) + 1) (lv' := [(3, .int ((nI j) + 1)), (2, .int ((nI (cntb t j)) + (0))), (1, .int z), (0, .ref (b 0))]) hx hb d_M_count_48 hl (k := 1) rfl rfl (by decide) rfl (fun ls hl => ?_)
              refine lv_goto (tgt := 24) hx hb d_M_count_51 (by decide) ?_
              refine ih (j + 1) hlt (by omega) ls ?_
              have e1 : nI (cntb t j) + 0 = nI (cntb t (j + 1)) := by
                show _ = nI (cntb t j + (if t j then 1 else 0))
                rw [hq9]
                exact nI_add _ _
              rw [← e1, ← nI_1 j]
              exact lv_sub hl [1, 0, 2, 3] rfl
            · have hq9 : t j = true := by
                rw [zb_c] at c_38
                cases h9 : t j <;> rw [h9] at c_38 <;> first | rfl | exact absurd rfl c_38 | exact absurd c_38 (by decide)
              refine lv_iconst (v := 1) hx hb d_M_count_41 (by decide) ?_
              refine lv_goto (tgt := 46) hx hb d_M_count_42 (by decide) ?_
              refine lv_iadd hx hb d_M_count_46 ?_
              refine lv_istore_n (lv' := [(2, .int ((nI (cntb t j)) + (1))), (3, .int (nI j)), (1, .int z), (0, .ref (b 0))]) hx hb d_M_count_47 rfl hl (by decide) rfl (fun ls hl => ?_)
              refine lv_iinc (v := (nI j) + 1) (lv' := [(3, .int ((nI j) + 1)), (2, .int ((nI (cntb t j)) + (1))), (1, .int z), (0, .ref (b 0))]) hx hb d_M_count_48 hl (k := 1) rfl rfl (by decide) rfl (fun ls hl => ?_)
              refine lv_goto (tgt := 24) hx hb d_M_count_51 (by decide) ?_
              refine ih (j + 1) hlt (by omega) ls ?_
              have e1 : nI (cntb t j) + 1 = nI (cntb t (j + 1)) := by
                show _ = nI (cntb t j + (if t j then 1 else 0))
                rw [hq9]
                exact nI_add _ _
              rw [← e1, ← nI_1 j]
              exact lv_sub hl [1, 0, 2, 3] rfl
      exact loop 257 0 (by omega) (by omega) ls (lv_sub hl [1, 0, 3, 2] rfl)
    · refine lv_aload_n hx hb d_M_count_14 rfl (lv_at hl 0 rfl) ?_
      refine lv_iconst (v := 1) hx hb d_M_count_15 (by decide) ?_
      refine va_calli (va_runV (As := [.int 1]) (rest := []) (C := RM) ⟨hx, hb, hml, hown, hts⟩ (m_M_fail l D k b 0 r d N F t KR K T 1 _) (cwV 1 hts (TB_g kl_M_48 ki_M_fail ks_M_fail kz_M (TB_c kc_M_fail)) rfl rfl rfl (by decide +kernel) ⟨Nat.le_of_ble_eq_true rfl, Nat.le_of_ble_eq_true rfl⟩) ⟨PW.bl, va_recv (q := (RM, TM, 9)) (ci := 2) (q0 := 0) hK hP rfl rfl, fun U hU hW => ⟨rfl, PW.go hK hP hD hS hA hE hU hW⟩⟩ rfl rfl hl.1 rfl (lv_room (Nat.le_of_ble_eq_true rfl)) d_M_count_16 ⟨Nat.zero_le _, Nat.zero_le _⟩) hS (fun q _ h => cut_F hD hS hA q h) (cut_F hD hS hA) (fun r9 uu t9 H1 locs1 ht hvm hpost hB hz hk hS => ?_)
      rw [ht] at hB
      have hP := hB
      have hD := hD.ad (wm_ad : (WM k b 1 r d N F (zb t) KR K (fun i => zb (T i))).map Prod.fst = _)
      generalize H1 = H at hP hS ⊢
      generalize locs1 = locs at hS ⊢
      subst hpost
      exact W.iret (v := 0) hx hb hr (fun t9 ht hW => ⟨⟨_, 1, rfl, Or.inl ⟨fun ⟨q, hq, e⟩ => c_11 (by rw [e]; exact (show nI q ≤ nI 3 from nI_le (by omega) (by decide))), rfl⟩, atP hP ht⟩, hS.F ht⟩) hS.2.2 d_M_count_19
