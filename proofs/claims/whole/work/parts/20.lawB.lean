/-! the law: close, load, held, touched, count, store -/
set_option maxHeartbeats 4000000 in
set_option maxRecDepth 100000 in
theorem law_close {p : Program} {l : Launch} {e : Env} {s : State} {m : MethodId} {below : List Frame} {meth : Method} {c : Code} {D : va_G} {k : Nat → ClassId} {a b : Nat → Nat} {q0 b0 L : Nat} {xs : Nat → Int32} (hl0 : l.stackTraces = false) (hL : L ≤ 3072) (C0 : lw_At p s m meth c b0 L xs) (hK : va_K D wCl (tyL k) s) (hE : EV (fun q : Nat => s.heap.size ≤ q) s) {n cells slots : Nat} (hn : n + 6 ≤ L) (hc : cells + 2 ≤ 601024) (hs : slots + 12 ≤ 7293034) (kk : lwS p l e s m below meth c D k a b q0 b0 n 635 (cells + 2) (slots + 12)) : lwS p l e s m below meth c D k a b q0 b0 n 145 (cells) (slots) := by
  obtain ⟨hx, hb, hr, hml, hown, hts0, hX, hbl, hlocks, hgv⟩ := C0
  have hts := TB_in hts0
  have hown : s.vm.findClass RL = some m.cls := hown
  have hA : ∀ q : Nat, s.heap.size ≤ q → (fun q : Nat => s.heap.size ≤ q) q := fun _ h => h
  have hbA : ¬ (fun q : Nat => s.heap.size ≤ q) b0 := Nat.not_le.mpr hbl
  intro d F V M R f r N G t KR K T O H locs ls hI hP hD hS hl
  have hd : d ≤ 30 := hI.1
  refine lv_aload_n hx hb d_L_law_145 rfl (lv_at hl 1 rfl) ?_
  refine lv_aload_n hx hb d_L_law_146 rfl (lv_at hl 0 rfl) ?_
  refine lv_iload hx hb d_L_law_147 (lv_at hl 4 rfl) ?_
  refine lv_iconst (v := 1) hx hb d_L_law_149 (by decide) ?_
  refine lv_iadd hx hb d_L_law_150 ?_
  refine va_sld hx hb hX hbl hbA hS (scr_in (j := 1) (by omega) hL) d_L_law_151 ?_
  refine lv_topi (fun s1 es1 => ?_)
  refine lv_if_eq (tgt := 159) hx hb d_L_law_152 (by decide) (fun c_152 => ?_) (fun c_152 => ?_)
  · refine lv_iconst (v := 0) hx hb d_L_law_159 (by decide) ?_
    refine lv_aload_n hx hb d_L_law_160 rfl (lv_at hl 3 rfl) ?_
    refine va_calli (vx_runSW (As := [.ref (a 0), .int 0, .ref q0]) (rest := []) ⟨hx, hb, hml, hown, hts⟩ (m_L_close l hl0 D k a d hd F V M R q0 O _ 0 _) (vx_cwSW 3 hts (TB_g3 kl_L_60 kt_L_close kz_L (TB_c kc_L_close)) rfl rfl rfl (by decide +kernel) ⟨Nat.le_of_ble_eq_true rfl, Nat.le_of_ble_eq_true rfl⟩) ⟨PW.bl, fun U hU hW => ⟨rfl, PW.go hK hP hD hS hA hE hU hW⟩⟩ rfl rfl hl.1 rfl (lv_room (Nat.le_of_ble_eq_true rfl)) d_L_law_161 ⟨(show cells + 1 ≤ 601024 by omega), (show slots + 6 ≤ 7293034 by omega)⟩) hS (fun q _ h => cut_F hD hS hA q h) (cut_F hD hS hA) (fun y uu t1 H1 locs1 ht hvm hpost hB hz hk hS => ?_)
    obtain ⟨d2, V2, M2, R2, O2⟩ := uu
    dsimp only at hpost hB
    rw [ht] at hB
    have hP := hB
    have hD := hD.ad (lw_ad (d1 := nI d2) (F := F) (V := V2) (M := M2) (R := R2) (O := O2))
    generalize H1 = H at hP hS ⊢
    generalize locs1 = locs at hS ⊢
    refine lv_istore (lv' := [(5, .int y), (0, .ref b0), (1, .ref (a 0)), (2, .ref (b 0)), (3, .ref q0), (4, .int (nI n))]) hx hb d_L_law_164 hl (by decide) rfl (fun ls hl => ?_)
    refine lv_aload_n hx hb d_L_law_166 rfl (lv_at hl 3 rfl) ?_
    refine lv_aload_n hx hb d_L_law_167 rfl (lv_at hl 1 rfl) ?_
    refine lv_iload hx hb d_L_law_168 (lv_at hl 5 rfl) ?_
    refine lv_iconst (v := 1) hx hb d_L_law_170 (by decide) ?_
    refine lv_iadd hx hb d_L_law_171 ?_
    refine va_sld hx hb hX hbl hbA hS (scr_in (j := 1) (by omega) hL) d_L_law_172 ?_
    rw [← es1]
    refine lv_if_eq (tgt := 180) hx hb d_L_law_173 (by decide) (fun c_173 => ?_) (fun c_173 => ?_)
    · refine lv_iconst (v := 0) hx hb d_L_law_180 (by decide) ?_
      refine va_calli (va_runV (As := [.int 0]) (rest := []) (C := RM) ⟨hx, hb, hml, hown, hts⟩ (m_M_close l D k b f r d hd N G t KR K T 0 _) (cwV 1 hts (TB_g kl_L_63 ki_M_close ks_M_close kz_M (TB_c kc_M_close)) rfl rfl rfl (by decide +kernel) ⟨Nat.le_of_ble_eq_true rfl, Nat.le_of_ble_eq_true rfl⟩) ⟨PW.bl, va_recv (q := (RM, TM, 9)) (ci := 2) (q0 := 0) hK (cutM_P hP) rfl rfl, fun U hU hW => ⟨rfl, PW.go hK (cutM_P hP) (cutM_D hD) hS hA hE hU hW⟩⟩ rfl rfl hl.1 rfl (lv_room (Nat.le_of_ble_eq_true rfl)) d_L_law_181 ⟨(show cells + 1 + 0 ≤ 601024 by omega), (show slots + 6 + 0 ≤ 7293034 by omega)⟩) hS (fun q _ h => cut_F (cutM_D hD) hS hA q h) (cut_F (cutM_D hD) hS hA) (fun x ww t2 H1 locs1 ht hvm hpost2 hB hz hk hS => ?_)
      rw [ht] at hB
      obtain ⟨hP, hD⟩ := cutM_J hP hD hk hB wm_ad
      generalize H1 = H at hP hS ⊢
      generalize locs1 = locs at hS ⊢
      obtain ⟨f2, d3, r2, N2, t2⟩ := ww
      dsimp only at hpost2 hP hD
      rcases hpost with ⟨e0, hno, e1, e2, e3, e4⟩ | ⟨e0, hyes, -, e3, e4, e5⟩
      · rcases hpost2 with ⟨-, g1, g2⟩ | ⟨e9, h9, -⟩
        rotate_left
        · omega
        obtain ⟨rfl, rfl, rfl, rfl, rfl⟩ : 1 = f2 ∧ d = d3 ∧ r = r2 ∧ N = N2 ∧ t = t2 := by injection g2 with g2 g3; injection g3 with g3 g4; injection g4 with g4 g5; injection g5 with g5 g6; exact ⟨g2.symm, hno.trans g3.symm, g4.symm, g5.symm, g6.symm⟩
        have e1 := e1.symm
        have e2 := e2.symm
        have e3 := e3.symm
        have e4 := e4.symm
        subst e0 e1 e2 e3 e4
        refine lv_istore (lv' := [(6, .int x), (5, .int 1), (0, .ref b0), (1, .ref (a 0)), (2, .ref (b 0)), (3, .ref q0), (4, .int (nI n))]) hx hb d_L_law_184 hl (by decide) rfl (fun ls hl => ?_)
        refine lv_aload_n hx hb d_L_law_186 rfl (lv_at hl 4 rfl) ?_
        refine vp_callSi (va_runV (As := []) (rest := []) (C := RM) ⟨hx, hb, hml, hown, hts⟩ (m_M_thrown l D k b 1 r (nI d) N G t KR K T _) (cwV 0 hts (TB_g kl_L_57 ki_M_thrown ks_M_thrown kz_M (TB_c kc_M_thrown)) rfl rfl rfl (by decide +kernel) ⟨Nat.le_of_ble_eq_true rfl, Nat.le_of_ble_eq_true rfl⟩) ⟨PW.bl, va_recv (q := (RM, TM, 9)) (ci := 2) (q0 := 0) hK (cutM_P hP) rfl rfl, fun U hU hW => ⟨rfl, PW.go hK (cutM_P hP) (cutM_D hD) hS hA hE hU hW⟩⟩ rfl rfl hl.1 rfl (lv_room (Nat.le_of_ble_eq_true rfl)) d_L_law_187 ⟨(show cells + 1 + 0 + 0 ≤ 601024 by omega), (show slots + 6 + 0 + 0 ≤ 7293034 by omega)⟩).run (fun h1 hh1 => ?_)
        subst hh1
        refine lv_iload hx hb d_L_law_190 (lv_at hl 1 rfl) ?_
        refine lv_icmp_eq (tgt := 197) hx hb d_L_law_192 (by decide) (fun c_192 => ?_) (fun c_192 => ?_)
        · refine lv_iload hx hb d_L_law_197 (lv_at hl 1 rfl) ?_
          refine lv_if_ne (tgt := 214) hx hb d_L_law_199 (by decide) (fun c_199 => ?_) (fun c_199 => ?_)
          · refine lv_goto (tgt := 635) hx hb d_L_law_214 (by decide) ?_
            refine W.widen (k := cells + 2) (n := slots + 12) (by omega) (by omega) ?_
            exact kk d F V M R 1 r N G t KR K T O2 H locs ls hI hP hD hS (lv_sub hl [2, 3, 4, 5, 6] rfl)
          · exact absurd c_199 (by decide)
        · exact absurd rfl c_192
      · rcases hpost2 with ⟨h9, -⟩ | ⟨e9, h9, g1, g2, g3, g4, g5⟩
        · omega
        obtain rfl : d2 = e9 := by omega
        have g3 := g3.symm
        subst e0 g1 g2 g3
        have hI := (congrArg (fun z => RI z F V M R N G t KR K T r) hyes).mp hI
        obtain ⟨g6, g7, g8⟩ := g5 rfl
        subst g6
        have e3 := e3 rfl
        obtain ⟨rfl, rfl, rfl⟩ : V = V2 ∧ M = M2 ∧ R = R2 := by injection e3 with e6 e7; injection e7 with e7 e8; exact ⟨e6.symm, e7.symm, e8.symm⟩
        refine lv_istore (lv' := [(6, .int (nI d2)), (5, .int 0), (0, .ref b0), (1, .ref (a 0)), (2, .ref (b 0)), (3, .ref q0), (4, .int (nI n))]) hx hb d_L_law_184 hl (by decide) rfl (fun ls hl => ?_)
        refine lv_aload_n hx hb d_L_law_186 rfl (lv_at hl 4 rfl) ?_
        refine vp_callSi (va_runV (As := []) (rest := []) (C := RM) ⟨hx, hb, hml, hown, hts⟩ (m_M_thrown l D k b 0 (KR (d2 + 1)) (nI d2) N2 G t2 KR K T _) (cwV 0 hts (TB_g kl_L_57 ki_M_thrown ks_M_thrown kz_M (TB_c kc_M_thrown)) rfl rfl rfl (by decide +kernel) ⟨Nat.le_of_ble_eq_true rfl, Nat.le_of_ble_eq_true rfl⟩) ⟨PW.bl, va_recv (q := (RM, TM, 9)) (ci := 2) (q0 := 0) hK (cutM_P hP) rfl rfl, fun U hU hW => ⟨rfl, PW.go hK (cutM_P hP) (cutM_D hD) hS hA hE hU hW⟩⟩ rfl rfl hl.1 rfl (lv_room (Nat.le_of_ble_eq_true rfl)) d_L_law_187 ⟨(show cells + 1 + 0 + 0 ≤ 601024 by omega), (show slots + 6 + 0 + 0 ≤ 7293034 by omega)⟩).run (fun h1 hh1 => ?_)
        subst hh1
        refine lv_iload hx hb d_L_law_190 (lv_at hl 1 rfl) ?_
        refine lv_icmp_eq (tgt := 197) hx hb d_L_law_192 (by decide) (fun c_192 => ?_) (fun c_192 => ?_)
        · refine lv_iload hx hb d_L_law_197 (lv_at hl 1 rfl) ?_
          refine lv_if_ne (tgt := 214) hx hb d_L_law_199 (by decide) (fun c_199 => ?_) (fun c_199 => ?_)
          · exact absurd rfl c_199
          · refine lv_aload_n hx hb d_L_law_202 rfl (lv_at hl 5 rfl) ?_
            refine lv_iconst (v := 0) hx hb d_L_law_203 (by decide) ?_
            refine va_lald hx hb hK hP 0 0 rfl rfl (show vp_in (nI 0) 1 from vp_in_nI (by decide) (by decide)) d_L_law_204 ?_
            have er : O2 (0 : Int32).toNatClampNeg = ((nI d2) : Int32).toInt64 := e5
            refine lv_iload hx hb d_L_law_205 (lv_at hl 0 rfl) ?_
            refine lv_i2l hx hb d_L_law_207 rfl ?_
            refine W.lcmp hx hb d_L_law_208 ?_
            refine lv_if_eq (tgt := 214) hx hb d_L_law_209 (by decide) (fun c_209 => ?_) (fun c_209 => ?_)
            · have c_209 : O2 (0 : Int32).toNatClampNeg = ((nI d2) : Int32).toInt64 := (lg_cmp_eq _ _).mp c_209
              refine lv_goto (tgt := 635) hx hb d_L_law_214 (by decide) ?_
              refine W.widen (k := cells + 2) (n := slots + 12) (by omega) (by omega) ?_
              exact kk d2 F V M R 0 (KR (d2 + 1)) N2 G t2 KR K T O2 H locs ls (ri_bad hI g7 g8 rfl) hP hD hS (lv_sub hl [2, 3, 4, 5, 6] rfl)
            · have c_209 : ¬ O2 (0 : Int32).toNatClampNeg = ((nI d2) : Int32).toInt64 := fun q => c_209 ((lg_cmp_eq _ _).mpr q)
              exact absurd er c_209
        · exact absurd rfl c_192
    · exact absurd c_152 c_173
  · refine lv_iconst (v := 1) hx hb d_L_law_155 (by decide) ?_
    refine lv_goto (tgt := 160) hx hb d_L_law_156 (by decide) ?_
    refine lv_aload_n hx hb d_L_law_160 rfl (lv_at hl 3 rfl) ?_
    refine va_calli (vx_runSW (As := [.ref (a 0), .int 1, .ref q0]) (rest := []) ⟨hx, hb, hml, hown, hts⟩ (m_L_close l hl0 D k a d hd F V M R q0 O _ 1 _) (vx_cwSW 3 hts (TB_g3 kl_L_60 kt_L_close kz_L (TB_c kc_L_close)) rfl rfl rfl (by decide +kernel) ⟨Nat.le_of_ble_eq_true rfl, Nat.le_of_ble_eq_true rfl⟩) ⟨PW.bl, fun U hU hW => ⟨rfl, PW.go hK hP hD hS hA hE hU hW⟩⟩ rfl rfl hl.1 rfl (lv_room (Nat.le_of_ble_eq_true rfl)) d_L_law_161 ⟨(show cells + 1 ≤ 601024 by omega), (show slots + 6 ≤ 7293034 by omega)⟩) hS (fun q _ h => cut_F hD hS hA q h) (cut_F hD hS hA) (fun y uu t1 H1 locs1 ht hvm hpost hB hz hk hS => ?_)
    obtain ⟨d2, V2, M2, R2, O2⟩ := uu
    dsimp only at hpost hB
    rw [ht] at hB
    have hP := hB
    have hD := hD.ad (lw_ad (d1 := nI d2) (F := F) (V := V2) (M := M2) (R := R2) (O := O2))
    generalize H1 = H at hP hS ⊢
    generalize locs1 = locs at hS ⊢
    refine lv_istore (lv' := [(5, .int y), (0, .ref b0), (1, .ref (a 0)), (2, .ref (b 0)), (3, .ref q0), (4, .int (nI n))]) hx hb d_L_law_164 hl (by decide) rfl (fun ls hl => ?_)
    refine lv_aload_n hx hb d_L_law_166 rfl (lv_at hl 3 rfl) ?_
    refine lv_aload_n hx hb d_L_law_167 rfl (lv_at hl 1 rfl) ?_
    refine lv_iload hx hb d_L_law_168 (lv_at hl 5 rfl) ?_
    refine lv_iconst (v := 1) hx hb d_L_law_170 (by decide) ?_
    refine lv_iadd hx hb d_L_law_171 ?_
    refine va_sld hx hb hX hbl hbA hS (scr_in (j := 1) (by omega) hL) d_L_law_172 ?_
    rw [← es1]
    refine lv_if_eq (tgt := 180) hx hb d_L_law_173 (by decide) (fun c_173 => ?_) (fun c_173 => ?_)
    · exact absurd c_173 c_152
    · refine lv_iconst (v := 1) hx hb d_L_law_176 (by decide) ?_
      refine lv_goto (tgt := 181) hx hb d_L_law_177 (by decide) ?_
      refine va_calli (va_runV (As := [.int 1]) (rest := []) (C := RM) ⟨hx, hb, hml, hown, hts⟩ (m_M_close l D k b f r d hd N G t KR K T 1 _) (cwV 1 hts (TB_g kl_L_63 ki_M_close ks_M_close kz_M (TB_c kc_M_close)) rfl rfl rfl (by decide +kernel) ⟨Nat.le_of_ble_eq_true rfl, Nat.le_of_ble_eq_true rfl⟩) ⟨PW.bl, va_recv (q := (RM, TM, 9)) (ci := 2) (q0 := 0) hK (cutM_P hP) rfl rfl, fun U hU hW => ⟨rfl, PW.go hK (cutM_P hP) (cutM_D hD) hS hA hE hU hW⟩⟩ rfl rfl hl.1 rfl (lv_room (Nat.le_of_ble_eq_true rfl)) d_L_law_181 ⟨(show cells + 1 + 0 ≤ 601024 by omega), (show slots + 6 + 0 ≤ 7293034 by omega)⟩) hS (fun q _ h => cut_F (cutM_D hD) hS hA q h) (cut_F (cutM_D hD) hS hA) (fun x ww t2 H1 locs1 ht hvm hpost2 hB hz hk hS => ?_)
      rw [ht] at hB
      obtain ⟨hP, hD⟩ := cutM_J hP hD hk hB wm_ad
      generalize H1 = H at hP hS ⊢
      generalize locs1 = locs at hS ⊢
      obtain ⟨f2, d3, r2, N2, t2⟩ := ww
      dsimp only at hpost2 hP hD
      rcases hpost with ⟨e0, hno, e1, e2, e3, e4⟩ | ⟨e0, hyes, -, e3, e4, e5⟩
      · rcases hpost2 with ⟨-, g1, g2⟩ | ⟨e9, h9, -⟩
        rotate_left
        · omega
        obtain ⟨rfl, rfl, rfl, rfl, rfl⟩ : 1 = f2 ∧ d = d3 ∧ r = r2 ∧ N = N2 ∧ t = t2 := by injection g2 with g2 g3; injection g3 with g3 g4; injection g4 with g4 g5; injection g5 with g5 g6; exact ⟨g2.symm, hno.trans g3.symm, g4.symm, g5.symm, g6.symm⟩
        have e1 := e1.symm
        have e2 := e2.symm
        have e3 := e3.symm
        have e4 := e4.symm
        subst e0 e1 e2 e3 e4
        refine lv_istore (lv' := [(6, .int x), (5, .int 1), (0, .ref b0), (1, .ref (a 0)), (2, .ref (b 0)), (3, .ref q0), (4, .int (nI n))]) hx hb d_L_law_184 hl (by decide) rfl (fun ls hl => ?_)
        refine lv_aload_n hx hb d_L_law_186 rfl (lv_at hl 4 rfl) ?_
        refine vp_callSi (va_runV (As := []) (rest := []) (C := RM) ⟨hx, hb, hml, hown, hts⟩ (m_M_thrown l D k b 1 r (nI d) N G t KR K T _) (cwV 0 hts (TB_g kl_L_57 ki_M_thrown ks_M_thrown kz_M (TB_c kc_M_thrown)) rfl rfl rfl (by decide +kernel) ⟨Nat.le_of_ble_eq_true rfl, Nat.le_of_ble_eq_true rfl⟩) ⟨PW.bl, va_recv (q := (RM, TM, 9)) (ci := 2) (q0 := 0) hK (cutM_P hP) rfl rfl, fun U hU hW => ⟨rfl, PW.go hK (cutM_P hP) (cutM_D hD) hS hA hE hU hW⟩⟩ rfl rfl hl.1 rfl (lv_room (Nat.le_of_ble_eq_true rfl)) d_L_law_187 ⟨(show cells + 1 + 0 + 0 ≤ 601024 by omega), (show slots + 6 + 0 + 0 ≤ 7293034 by omega)⟩).run (fun h1 hh1 => ?_)
        subst hh1
        refine lv_iload hx hb d_L_law_190 (lv_at hl 1 rfl) ?_
        refine lv_icmp_eq (tgt := 197) hx hb d_L_law_192 (by decide) (fun c_192 => ?_) (fun c_192 => ?_)
        · refine lv_iload hx hb d_L_law_197 (lv_at hl 1 rfl) ?_
          refine lv_if_ne (tgt := 214) hx hb d_L_law_199 (by decide) (fun c_199 => ?_) (fun c_199 => ?_)
          · refine lv_goto (tgt := 635) hx hb d_L_law_214 (by decide) ?_
            refine W.widen (k := cells + 2) (n := slots + 12) (by omega) (by omega) ?_
            exact kk d F V M R 1 r N G t KR K T O2 H locs ls hI hP hD hS (lv_sub hl [2, 3, 4, 5, 6] rfl)
          · exact absurd c_199 (by decide)
        · exact absurd rfl c_192
      · rcases hpost2 with ⟨h9, -⟩ | ⟨e9, h9, g1, g2, g3, g4, g5⟩
        · omega
        obtain rfl : d2 = e9 := by omega
        have g3 := g3.symm
        subst e0 g1 g2 g3
        have hI := (congrArg (fun z => RI z F V M R N G t KR K T r) hyes).mp hI
        have g4 := g4 (by decide)
        obtain ⟨rfl, rfl, rfl⟩ : r = r2 ∧ N = N2 ∧ t = t2 := by injection g4 with e6 e7; injection e7 with e7 e8; exact ⟨e6.symm, e7.symm, e8.symm⟩
        have e4 := e4 (by decide)
        obtain ⟨e6, e7, e8⟩ : V2 = va_up V d2 (va_cpy (V (d2 + 1)) (V d2) 0 0 256) ∧ M2 = va_up M d2 (va_cpy (M (d2 + 1)) (M d2) 0 0 4) ∧ R2 = va_up R d2 (R (d2 + 1)) := by injection e4 with e6 e7; injection e7 with e7 e8; exact ⟨e6, e7, e8⟩
        subst e6 e7 e8
        refine lv_istore (lv' := [(6, .int (nI d2)), (5, .int 0), (0, .ref b0), (1, .ref (a 0)), (2, .ref (b 0)), (3, .ref q0), (4, .int (nI n))]) hx hb d_L_law_184 hl (by decide) rfl (fun ls hl => ?_)
        refine lv_aload_n hx hb d_L_law_186 rfl (lv_at hl 4 rfl) ?_
        refine vp_callSi (va_runV (As := []) (rest := []) (C := RM) ⟨hx, hb, hml, hown, hts⟩ (m_M_thrown l D k b 0 r (nI d2) N G t KR K T _) (cwV 0 hts (TB_g kl_L_57 ki_M_thrown ks_M_thrown kz_M (TB_c kc_M_thrown)) rfl rfl rfl (by decide +kernel) ⟨Nat.le_of_ble_eq_true rfl, Nat.le_of_ble_eq_true rfl⟩) ⟨PW.bl, va_recv (q := (RM, TM, 9)) (ci := 2) (q0 := 0) hK (cutM_P hP) rfl rfl, fun U hU hW => ⟨rfl, PW.go hK (cutM_P hP) (cutM_D hD) hS hA hE hU hW⟩⟩ rfl rfl hl.1 rfl (lv_room (Nat.le_of_ble_eq_true rfl)) d_L_law_187 ⟨(show cells + 1 + 0 + 0 ≤ 601024 by omega), (show slots + 6 + 0 + 0 ≤ 7293034 by omega)⟩).run (fun h1 hh1 => ?_)
        subst hh1
        refine lv_iload hx hb d_L_law_190 (lv_at hl 1 rfl) ?_
        refine lv_icmp_eq (tgt := 197) hx hb d_L_law_192 (by decide) (fun c_192 => ?_) (fun c_192 => ?_)
        · refine lv_iload hx hb d_L_law_197 (lv_at hl 1 rfl) ?_
          refine lv_if_ne (tgt := 214) hx hb d_L_law_199 (by decide) (fun c_199 => ?_) (fun c_199 => ?_)
          · exact absurd rfl c_199
          · refine lv_aload_n hx hb d_L_law_202 rfl (lv_at hl 5 rfl) ?_
            refine lv_iconst (v := 0) hx hb d_L_law_203 (by decide) ?_
            refine va_lald hx hb hK hP 0 0 rfl rfl (show vp_in (nI 0) 1 from vp_in_nI (by decide) (by decide)) d_L_law_204 ?_
            have er : O2 (0 : Int32).toNatClampNeg = ((nI d2) : Int32).toInt64 := e5
            refine lv_iload hx hb d_L_law_205 (lv_at hl 0 rfl) ?_
            refine lv_i2l hx hb d_L_law_207 rfl ?_
            refine W.lcmp hx hb d_L_law_208 ?_
            refine lv_if_eq (tgt := 214) hx hb d_L_law_209 (by decide) (fun c_209 => ?_) (fun c_209 => ?_)
            · have c_209 : O2 (0 : Int32).toNatClampNeg = ((nI d2) : Int32).toInt64 := (lg_cmp_eq _ _).mp c_209
              refine lv_goto (tgt := 635) hx hb d_L_law_214 (by decide) ?_
              refine W.widen (k := cells + 2) (n := slots + 12) (by omega) (by omega) ?_
              exact kk d2 F (va_up V d2 (va_cpy (V (d2 + 1)) (V d2) 0 0 256)) (va_up M d2 (va_cpy (M (d2 + 1)) (M d2) 0 0 4)) (va_up R d2 (R (d2 + 1))) 0 r N G t KR K T O2 H locs ls (ri_good hI) hP hD hS (lv_sub hl [2, 3, 4, 5, 6] rfl)
            · have c_209 : ¬ O2 (0 : Int32).toNatClampNeg = ((nI d2) : Int32).toInt64 := fun q => c_209 ((lg_cmp_eq _ _).mpr q)
              exact absurd er c_209
        · exact absurd rfl c_192
set_option maxHeartbeats 4000000 in
set_option maxRecDepth 100000 in
theorem law_load {p : Program} {l : Launch} {e : Env} {s : State} {m : MethodId} {below : List Frame} {meth : Method} {c : Code} {D : va_G} {k : Nat → ClassId} {a b : Nat → Nat} {q0 b0 L : Nat} {xs : Nat → Int32} (hl0 : l.stackTraces = false) (hL : L ≤ 3072) (C0 : lw_At p s m meth c b0 L xs) (hK : va_K D wCl (tyL k) s) (hE : EV (fun q : Nat => s.heap.size ≤ q) s) {n cells slots : Nat} (hn : n + 6 ≤ L) (hc : cells + 2 ≤ 601024) (hs : slots + 12 ≤ 7293034) (kk : lwS p l e s m below meth c D k a b q0 b0 n 635 (cells + 2) (slots + 12)) : lwS p l e s m below meth c D k a b q0 b0 n 217 (cells) (slots) := by
  obtain ⟨hx, hb, hr, hml, hown, hts0, hX, hbl, hlocks, hgv⟩ := C0
  have hts := TB_in hts0
  have hown : s.vm.findClass RL = some m.cls := hown
  have hA : ∀ q : Nat, s.heap.size ≤ q → (fun q : Nat => s.heap.size ≤ q) q := fun _ h => h
  have hbA : ¬ (fun q : Nat => s.heap.size ≤ q) b0 := Nat.not_le.mpr hbl
  intro d F V M R f r N G t KR K T O H locs ls hI hP hD hS hl
  have hd : d ≤ 30 := hI.1
  refine lv_aload_n hx hb d_L_law_217 rfl (lv_at hl 1 rfl) ?_
  refine lv_aload_n hx hb d_L_law_218 rfl (lv_at hl 0 rfl) ?_
  refine lv_iload hx hb d_L_law_219 (lv_at hl 4 rfl) ?_
  refine lv_iconst (v := 1) hx hb d_L_law_221 (by decide) ?_
  refine lv_iadd hx hb d_L_law_222 ?_
  refine va_sld hx hb hX hbl hbA hS (scr_in (j := 1) (by omega) hL) d_L_law_223 ?_
  refine lv_topi (fun s1 es1 => ?_)
  refine lv_aload_n hx hb d_L_law_224 rfl (lv_at hl 0 rfl) ?_
  refine lv_iload hx hb d_L_law_225 (lv_at hl 4 rfl) ?_
  refine lv_iconst (v := 2) hx hb d_L_law_227 (by decide) ?_
  refine lv_iadd hx hb d_L_law_228 ?_
  refine va_sld hx hb hX hbl hbA hS (scr_in (j := 2) (by omega) hL) d_L_law_229 ?_
  refine lv_topi (fun s2 es2 => ?_)
  refine lv_aload_n hx hb d_L_law_230 rfl (lv_at hl 3 rfl) ?_
  refine va_calli (vx_runSW (As := [.ref (a 0), .int s1, .int s2, .ref q0]) (rest := []) ⟨hx, hb, hml, hown, hts⟩ (m_L_load l hl0 D k a d hd F V M R q0 O _ s1 s2 _) (vx_cwSW 4 hts (TB_g3 kl_L_64 kt_L_load kz_L (TB_c kc_L_load)) rfl rfl rfl (by decide +kernel) ⟨Nat.le_of_ble_eq_true rfl, Nat.le_of_ble_eq_true rfl⟩) ⟨PW.bl, fun U hU hW => ⟨rfl, PW.go hK hP hD hS hA hE hU hW⟩⟩ rfl rfl hl.1 rfl (lv_room (Nat.le_of_ble_eq_true rfl)) d_L_law_231 ⟨(show cells + 1 ≤ 601024 by omega), (show slots + 6 ≤ 7293034 by omega)⟩) hS (fun q _ h => cut_F hD hS hA q h) (cut_F hD hS hA) (fun y uu t1 H1 locs1 ht hvm hpost hB hz hk hS => ?_)
  obtain ⟨d2, V2, M2, R2, O2⟩ := uu
  dsimp only at hpost hB
  rw [ht] at hB
  have hP := hB
  have hD := hD.ad (lw_ad (d1 := nI d2) (F := F) (V := V2) (M := M2) (R := R2) (O := O2))
  generalize H1 = H at hP hS ⊢
  generalize locs1 = locs at hS ⊢
  refine lv_istore (lv' := [(5, .int y), (0, .ref b0), (1, .ref (a 0)), (2, .ref (b 0)), (3, .ref q0), (4, .int (nI n))]) hx hb d_L_law_234 hl (by decide) rfl (fun ls hl => ?_)
  refine lv_aload_n hx hb d_L_law_236 rfl (lv_at hl 3 rfl) ?_
  refine lv_aload_n hx hb d_L_law_237 rfl (lv_at hl 1 rfl) ?_
  refine lv_iload hx hb d_L_law_238 (lv_at hl 5 rfl) ?_
  refine lv_iconst (v := 1) hx hb d_L_law_240 (by decide) ?_
  refine lv_iadd hx hb d_L_law_241 ?_
  refine va_sld hx hb hX hbl hbA hS (scr_in (j := 1) (by omega) hL) d_L_law_242 ?_
  rw [← es1]
  refine lv_aload_n hx hb d_L_law_243 rfl (lv_at hl 1 rfl) ?_
  refine lv_iload hx hb d_L_law_244 (lv_at hl 5 rfl) ?_
  refine lv_iconst (v := 2) hx hb d_L_law_246 (by decide) ?_
  refine lv_iadd hx hb d_L_law_247 ?_
  refine va_sld hx hb hX hbl hbA hS (scr_in (j := 2) (by omega) hL) d_L_law_248 ?_
  rw [← es2]
  refine va_calli (va_runV (As := [.int s1, .int s2]) (rest := []) (C := RM) ⟨hx, hb, hml, hown, hts⟩ (m_M_load l D k b f r (nI d) N G t KR K T s1 s2 _) (cwV 2 hts (TB_g kl_L_67 ki_M_load ks_M_load kz_M (TB_c kc_M_load)) rfl rfl rfl (by decide +kernel) ⟨Nat.le_of_ble_eq_true rfl, Nat.le_of_ble_eq_true rfl⟩) ⟨PW.bl, va_recv (q := (RM, TM, 9)) (ci := 2) (q0 := 0) hK (cutM_P hP) rfl rfl, fun U hU hW => ⟨rfl, PW.go hK (cutM_P hP) (cutM_D hD) hS hA hE hU hW⟩⟩ rfl rfl hl.1 rfl (lv_room (Nat.le_of_ble_eq_true rfl)) d_L_law_249 ⟨(show cells + 1 + 0 ≤ 601024 by omega), (show slots + 6 + 0 ≤ 7293034 by omega)⟩) hS (fun q _ h => cut_F (cutM_D hD) hS hA q h) (cut_F (cutM_D hD) hS hA) (fun x ww t2 H1 locs1 ht hvm hpost2 hB hz hk hS => ?_)
  rw [ht] at hB
  obtain ⟨hP, hD⟩ := cutM_J hP hD hk hB wm_ad
  generalize H1 = H at hP hS ⊢
  generalize locs1 = locs at hS ⊢
  obtain ⟨f2, t2⟩ := ww
  dsimp only at hpost2 hP hD
  rcases hpost with ⟨e0, hno, e1, e2, e3, e4⟩ | ⟨e0, g, h, hg, hh, e6, e7, e1, e2, e3, e4, e5⟩
  · rcases hpost2 with ⟨-, g1, g2⟩ | ⟨g1, h1, hg1, hh1, g2, g3, -⟩
    rotate_left
    · exact absurd ⟨g1, h1, hg1, hh1, g2, g3⟩ hno
    obtain ⟨rfl, rfl⟩ : 1 = f2 ∧ t = t2 := by injection g2 with g2 g3; exact ⟨g2.symm, g3.symm⟩
    have e1 := e1.symm
    have e2 := e2.symm
    have e3 := e3.symm
    have e4 := e4.symm
    subst e0 e1 e2 e3 e4
    refine lv_istore (lv' := [(6, .int x), (5, .int 1), (0, .ref b0), (1, .ref (a 0)), (2, .ref (b 0)), (3, .ref q0), (4, .int (nI n))]) hx hb d_L_law_252 hl (by decide) rfl (fun ls hl => ?_)
    refine lv_aload_n hx hb d_L_law_254 rfl (lv_at hl 4 rfl) ?_
    refine vp_callSi (va_runV (As := []) (rest := []) (C := RM) ⟨hx, hb, hml, hown, hts⟩ (m_M_thrown l D k b 1 r (nI d) N G t KR K T _) (cwV 0 hts (TB_g kl_L_57 ki_M_thrown ks_M_thrown kz_M (TB_c kc_M_thrown)) rfl rfl rfl (by decide +kernel) ⟨Nat.le_of_ble_eq_true rfl, Nat.le_of_ble_eq_true rfl⟩) ⟨PW.bl, va_recv (q := (RM, TM, 9)) (ci := 2) (q0 := 0) hK (cutM_P hP) rfl rfl, fun U hU hW => ⟨rfl, PW.go hK (cutM_P hP) (cutM_D hD) hS hA hE hU hW⟩⟩ rfl rfl hl.1 rfl (lv_room (Nat.le_of_ble_eq_true rfl)) d_L_law_255 ⟨(show cells + 1 + 0 + 0 ≤ 601024 by omega), (show slots + 6 + 0 + 0 ≤ 7293034 by omega)⟩).run (fun h1 hh1 => ?_)
    subst hh1
    refine lv_iload hx hb d_L_law_258 (lv_at hl 1 rfl) ?_
    refine lv_icmp_eq (tgt := 265) hx hb d_L_law_260 (by decide) (fun c_260 => ?_) (fun c_260 => ?_)
    · refine lv_iload hx hb d_L_law_265 (lv_at hl 1 rfl) ?_
      refine lv_if_ne (tgt := 282) hx hb d_L_law_267 (by decide) (fun c_267 => ?_) (fun c_267 => ?_)
      · refine lv_goto (tgt := 635) hx hb d_L_law_282 (by decide) ?_
        refine W.widen (k := cells + 2) (n := slots + 12) (by omega) (by omega) ?_
        exact kk d F V M R 1 r N G t KR K T O2 H locs ls hI hP hD hS (lv_sub hl [2, 3, 4, 5, 6] rfl)
      · exact absurd c_267 (by decide)
    · exact absurd rfl c_260
  · rcases hpost2 with ⟨hno2, -⟩ | ⟨g1, h1, hg1, hh1, g2, g3, g4, g5⟩
    · exact absurd ⟨g, h, hg, hh, e6, e7⟩ hno2
    obtain rfl : g = g1 := nI_u (by omega) (by omega) (e6.symm.trans g2)
    obtain rfl : h = h1 := nI_u hh hh1 (e7.symm.trans g3)
    obtain ⟨rfl, g7⟩ : 0 = f2 ∧ t2 = va_up t (g * 64 + h) true := by injection g5 with g5 g6; exact ⟨g5.symm, g6⟩
    have e1 := e1.symm
    have e2 := e2.symm
    have e4 := e4.symm
    subst e0 e1 e2 e4 e3 g7
    have htt := hI.2.2.2.1 g h hg hh
    refine lv_istore (lv' := [(6, .int x), (5, .int 0), (0, .ref b0), (1, .ref (a 0)), (2, .ref (b 0)), (3, .ref q0), (4, .int (nI n))]) hx hb d_L_law_252 hl (by decide) rfl (fun ls hl => ?_)
    refine lv_aload_n hx hb d_L_law_254 rfl (lv_at hl 4 rfl) ?_
    refine vp_callSi (va_runV (As := []) (rest := []) (C := RM) ⟨hx, hb, hml, hown, hts⟩ (m_M_thrown l D k b 0 r (nI d) N G (va_up t (g * 64 + h) true) KR K T _) (cwV 0 hts (TB_g kl_L_57 ki_M_thrown ks_M_thrown kz_M (TB_c kc_M_thrown)) rfl rfl rfl (by decide +kernel) ⟨Nat.le_of_ble_eq_true rfl, Nat.le_of_ble_eq_true rfl⟩) ⟨PW.bl, va_recv (q := (RM, TM, 9)) (ci := 2) (q0 := 0) hK (cutM_P hP) rfl rfl, fun U hU hW => ⟨rfl, PW.go hK (cutM_P hP) (cutM_D hD) hS hA hE hU hW⟩⟩ rfl rfl hl.1 rfl (lv_room (Nat.le_of_ble_eq_true rfl)) d_L_law_255 ⟨(show cells + 1 + 0 + 0 ≤ 601024 by omega), (show slots + 6 + 0 + 0 ≤ 7293034 by omega)⟩).run (fun h1 hh1 => ?_)
    subst hh1
    refine lv_iload hx hb d_L_law_258 (lv_at hl 1 rfl) ?_
    refine lv_icmp_eq (tgt := 265) hx hb d_L_law_260 (by decide) (fun c_260 => ?_) (fun c_260 => ?_)
    · refine lv_iload hx hb d_L_law_265 (lv_at hl 1 rfl) ?_
      refine lv_if_ne (tgt := 282) hx hb d_L_law_267 (by decide) (fun c_267 => ?_) (fun c_267 => ?_)
      · exact absurd rfl c_267
      · refine lv_aload_n hx hb d_L_law_270 rfl (lv_at hl 5 rfl) ?_
        refine lv_iconst (v := 0) hx hb d_L_law_271 (by decide) ?_
        refine va_lald hx hb hK hP 0 0 rfl rfl (show vp_in (nI 0) 1 from vp_in_nI (by decide) (by decide)) d_L_law_272 ?_
        have er : O2 (0 : Int32).toNatClampNeg = ((x) : Int32).toInt64 := by rw [g4, htt]; exact e5
        refine lv_iload hx hb d_L_law_273 (lv_at hl 0 rfl) ?_
        refine lv_i2l hx hb d_L_law_275 rfl ?_
        refine W.lcmp hx hb d_L_law_276 ?_
        refine lv_if_eq (tgt := 282) hx hb d_L_law_277 (by decide) (fun c_277 => ?_) (fun c_277 => ?_)
        · have c_277 : O2 (0 : Int32).toNatClampNeg = ((x) : Int32).toInt64 := (lg_cmp_eq _ _).mp c_277
          refine lv_goto (tgt := 635) hx hb d_L_law_282 (by decide) ?_
          refine W.widen (k := cells + 2) (n := slots + 12) (by omega) (by omega) ?_
          exact kk d F V (va_up M d (vp_updL (M d) g (tbs (M d g) h))) R 0 r N G (va_up t (g * 64 + h) true) KR K T O2 H locs ls (ri_load hI hg hh) hP hD hS (lv_sub hl [2, 3, 4, 5, 6] rfl)
        · have c_277 : ¬ O2 (0 : Int32).toNatClampNeg = ((x) : Int32).toInt64 := fun q => c_277 ((lg_cmp_eq _ _).mpr q)
          exact absurd er c_277
    · exact absurd rfl c_260
set_option maxHeartbeats 4000000 in
set_option maxRecDepth 100000 in
theorem law_held {p : Program} {l : Launch} {e : Env} {s : State} {m : MethodId} {below : List Frame} {meth : Method} {c : Code} {D : va_G} {k : Nat → ClassId} {a b : Nat → Nat} {q0 b0 L : Nat} {xs : Nat → Int32} (hl0 : l.stackTraces = false) (hL : L ≤ 3072) (C0 : lw_At p s m meth c b0 L xs) (hK : va_K D wCl (tyL k) s) (hE : EV (fun q : Nat => s.heap.size ≤ q) s) {n cells slots : Nat} (hn : n + 6 ≤ L) (hc : cells + 2 ≤ 601024) (hs : slots + 12 ≤ 7293034) (kk : lwS p l e s m below meth c D k a b q0 b0 n 635 (cells + 2) (slots + 12)) : lwS p l e s m below meth c D k a b q0 b0 n 409 (cells) (slots) := by
  obtain ⟨hx, hb, hr, hml, hown, hts0, hX, hbl, hlocks, hgv⟩ := C0
  have hts := TB_in hts0
  have hown : s.vm.findClass RL = some m.cls := hown
  have hA : ∀ q : Nat, s.heap.size ≤ q → (fun q : Nat => s.heap.size ≤ q) q := fun _ h => h
  have hbA : ¬ (fun q : Nat => s.heap.size ≤ q) b0 := Nat.not_le.mpr hbl
  intro d F V M R f r N G t KR K T O H locs ls hI hP hD hS hl
  have hd : d ≤ 30 := hI.1
  refine lv_aload_n hx hb d_L_law_409 rfl (lv_at hl 1 rfl) ?_
  refine lv_aload_n hx hb d_L_law_410 rfl (lv_at hl 0 rfl) ?_
  refine lv_iload hx hb d_L_law_411 (lv_at hl 4 rfl) ?_
  refine lv_iconst (v := 1) hx hb d_L_law_413 (by decide) ?_
  refine lv_iadd hx hb d_L_law_414 ?_
  refine va_sld hx hb hX hbl hbA hS (scr_in (j := 1) (by omega) hL) d_L_law_415 ?_
  refine lv_topi (fun s1 es1 => ?_)
  refine lv_aload_n hx hb d_L_law_416 rfl (lv_at hl 0 rfl) ?_
  refine lv_iload hx hb d_L_law_417 (lv_at hl 4 rfl) ?_
  refine lv_iconst (v := 2) hx hb d_L_law_419 (by decide) ?_
  refine lv_iadd hx hb d_L_law_420 ?_
  refine va_sld hx hb hX hbl hbA hS (scr_in (j := 2) (by omega) hL) d_L_law_421 ?_
  refine lv_topi (fun s2 es2 => ?_)
  refine lv_aload_n hx hb d_L_law_422 rfl (lv_at hl 0 rfl) ?_
  refine lv_iload hx hb d_L_law_423 (lv_at hl 4 rfl) ?_
  refine lv_iconst (v := 3) hx hb d_L_law_425 (by decide) ?_
  refine lv_iadd hx hb d_L_law_426 ?_
  refine va_sld hx hb hX hbl hbA hS (scr_in (j := 3) (by omega) hL) d_L_law_427 ?_
  refine lv_topi (fun s3 es3 => ?_)
  refine lv_if_eq (tgt := 435) hx hb d_L_law_428 (by decide) (fun c_428 => ?_) (fun c_428 => ?_)
  · refine lv_iconst (v := 0) hx hb d_L_law_435 (by decide) ?_
    refine lv_aload_n hx hb d_L_law_436 rfl (lv_at hl 3 rfl) ?_
    refine va_calli (vx_runSW (As := [.ref (a 0), .int s1, .int s2, .int 0, .ref q0]) (rest := []) ⟨hx, hb, hml, hown, hts⟩ (m_L_held l hl0 D k a d hd F V M R q0 O _ s1 s2 0 _) (vx_cwSW 5 hts (TB_g3 kl_L_74 kt_L_held kz_L (TB_c kc_L_held)) rfl rfl rfl (by decide +kernel) ⟨Nat.le_of_ble_eq_true rfl, Nat.le_of_ble_eq_true rfl⟩) ⟨PW.bl, fun U hU hW => ⟨rfl, PW.go hK hP hD hS hA hE hU hW⟩⟩ rfl rfl hl.1 rfl (lv_room (Nat.le_of_ble_eq_true rfl)) d_L_law_437 ⟨(show cells + 1 ≤ 601024 by omega), (show slots + 6 ≤ 7293034 by omega)⟩) hS (fun q _ h => cut_F hD hS hA q h) (cut_F hD hS hA) (fun y uu t1 H1 locs1 ht hvm hpost hB hz hk hS => ?_)
    obtain ⟨d2, V2, M2, R2, O2⟩ := uu
    dsimp only at hpost hB
    rw [ht] at hB
    have hP := hB
    have hD := hD.ad (lw_ad (d1 := nI d2) (F := F) (V := V2) (M := M2) (R := R2) (O := O2))
    generalize H1 = H at hP hS ⊢
    generalize locs1 = locs at hS ⊢
    refine lv_istore (lv' := [(5, .int y), (0, .ref b0), (1, .ref (a 0)), (2, .ref (b 0)), (3, .ref q0), (4, .int (nI n))]) hx hb d_L_law_440 hl (by decide) rfl (fun ls hl => ?_)
    refine lv_aload_n hx hb d_L_law_442 rfl (lv_at hl 3 rfl) ?_
    refine lv_aload_n hx hb d_L_law_443 rfl (lv_at hl 1 rfl) ?_
    refine lv_iload hx hb d_L_law_444 (lv_at hl 5 rfl) ?_
    refine lv_iconst (v := 1) hx hb d_L_law_446 (by decide) ?_
    refine lv_iadd hx hb d_L_law_447 ?_
    refine va_sld hx hb hX hbl hbA hS (scr_in (j := 1) (by omega) hL) d_L_law_448 ?_
    rw [← es1]
    refine lv_aload_n hx hb d_L_law_449 rfl (lv_at hl 1 rfl) ?_
    refine lv_iload hx hb d_L_law_450 (lv_at hl 5 rfl) ?_
    refine lv_iconst (v := 2) hx hb d_L_law_452 (by decide) ?_
    refine lv_iadd hx hb d_L_law_453 ?_
    refine va_sld hx hb hX hbl hbA hS (scr_in (j := 2) (by omega) hL) d_L_law_454 ?_
    rw [← es2]
    refine lv_aload_n hx hb d_L_law_455 rfl (lv_at hl 1 rfl) ?_
    refine lv_iload hx hb d_L_law_456 (lv_at hl 5 rfl) ?_
    refine lv_iconst (v := 3) hx hb d_L_law_458 (by decide) ?_
    refine lv_iadd hx hb d_L_law_459 ?_
    refine va_sld hx hb hX hbl hbA hS (scr_in (j := 3) (by omega) hL) d_L_law_460 ?_
    rw [← es3]
    refine lv_if_eq (tgt := 468) hx hb d_L_law_461 (by decide) (fun c_461 => ?_) (fun c_461 => ?_)
    · refine lv_iconst (v := 0) hx hb d_L_law_468 (by decide) ?_
      refine va_calll (va_runV (As := [.int s1, .int s2, .int 0]) (rest := []) (C := RM) ⟨hx, hb, hml, hown, hts⟩ (m_M_held l D k b f r (nI d) N G t KR K T s1 s2 0 _) (cwV 3 hts (TB_g kl_L_77 ki_M_held ks_M_held kz_M (TB_c kc_M_held)) rfl rfl rfl (by decide +kernel) ⟨Nat.le_of_ble_eq_true rfl, Nat.le_of_ble_eq_true rfl⟩) ⟨PW.bl, va_recv (q := (RM, TM, 9)) (ci := 2) (q0 := 0) hK (cutM_P hP) rfl rfl, fun U hU hW => ⟨rfl, PW.go hK (cutM_P hP) (cutM_D hD) hS hA hE hU hW⟩⟩ rfl rfl hl.1 rfl (lv_room (Nat.le_of_ble_eq_true rfl)) d_L_law_469 ⟨(show cells + 1 + 0 ≤ 601024 by omega), (show slots + 6 + 0 ≤ 7293034 by omega)⟩) hS (fun q _ h => cut_F (cutM_D hD) hS hA q h) (cut_F (cutM_D hD) hS hA) (fun x ww t2 H1 locs1 ht hvm hpost2 hB hz hk hS => ?_)
      rw [ht] at hB
      obtain ⟨hP, hD⟩ := cutM_J hP hD hk hB wm_ad
      generalize H1 = H at hP hS ⊢
      generalize locs1 = locs at hS ⊢
      rcases hpost with ⟨e0, hno, e1, e2, e3, e4⟩ | ⟨e0, g, h, hg, hh, e6, e7, e1, e2, e3, e4, e5⟩
      · rcases hpost2 with ⟨-, g2⟩ | ⟨g1, h1, hg1, hh1, g2, g3, -⟩
        rotate_left
        · exact absurd ⟨g1, h1, hg1, hh1, g2, g3⟩ hno
        subst g2
        have e1 := e1.symm
        have e2 := e2.symm
        have e3 := e3.symm
        have e4 := e4.symm
        subst e0 e1 e2 e3 e4
        refine lv_lstore (lv' := [(6, .long x), (5, .int 1), (0, .ref b0), (1, .ref (a 0)), (2, .ref (b 0)), (3, .ref q0), (4, .int (nI n))]) hx hb d_L_law_472 hl (by decide) rfl (fun ls hl => ?_)
        refine lv_aload_n hx hb d_L_law_474 rfl (lv_at hl 4 rfl) ?_
        refine vp_callSi (va_runV (As := []) (rest := []) (C := RM) ⟨hx, hb, hml, hown, hts⟩ (m_M_thrown l D k b 1 r (nI d) N G t KR K T _) (cwV 0 hts (TB_g kl_L_57 ki_M_thrown ks_M_thrown kz_M (TB_c kc_M_thrown)) rfl rfl rfl (by decide +kernel) ⟨Nat.le_of_ble_eq_true rfl, Nat.le_of_ble_eq_true rfl⟩) ⟨PW.bl, va_recv (q := (RM, TM, 9)) (ci := 2) (q0 := 0) hK (cutM_P hP) rfl rfl, fun U hU hW => ⟨rfl, PW.go hK (cutM_P hP) (cutM_D hD) hS hA hE hU hW⟩⟩ rfl rfl hl.1 rfl (lv_room (Nat.le_of_ble_eq_true rfl)) d_L_law_475 ⟨(show cells + 1 + 0 + 0 ≤ 601024 by omega), (show slots + 6 + 0 + 0 ≤ 7293034 by omega)⟩).run (fun h1 hh1 => ?_)
        subst hh1
        refine lv_iload hx hb d_L_law_478 (lv_at hl 1 rfl) ?_
        refine lv_icmp_eq (tgt := 485) hx hb d_L_law_480 (by decide) (fun c_480 => ?_) (fun c_480 => ?_)
        · refine lv_iload hx hb d_L_law_485 (lv_at hl 1 rfl) ?_
          refine lv_if_ne (tgt := 501) hx hb d_L_law_487 (by decide) (fun c_487 => ?_) (fun c_487 => ?_)
          · refine lv_goto (tgt := 635) hx hb d_L_law_501 (by decide) ?_
            refine W.widen (k := cells + 2) (n := slots + 12) (by omega) (by omega) ?_
            exact kk d F V M R 1 r N G t KR K T O2 H locs ls hI hP hD hS (lv_sub hl [2, 3, 4, 5, 6] rfl)
          · exact absurd c_487 (by decide)
        · exact absurd rfl c_480
      · rcases hpost2 with ⟨hno2, -⟩ | ⟨g1, h1, hg1, hh1, g2, g3, g4, g5⟩
        · exact absurd ⟨g, h, hg, hh, e6, e7⟩ hno2
        obtain rfl : g = g1 := nI_u (by omega) (by omega) (e6.symm.trans g2)
        obtain rfl : h = h1 := nI_u hh hh1 (e7.symm.trans g3)
        subst g5
        have e1 := e1.symm
        have e2 := e2.symm
        have e3 := e3.symm
        have e4 := e4.symm
        subst e0 e1 e2 e3 e4
        refine lv_lstore (lv' := [(6, .long x), (5, .int 0), (0, .ref b0), (1, .ref (a 0)), (2, .ref (b 0)), (3, .ref q0), (4, .int (nI n))]) hx hb d_L_law_472 hl (by decide) rfl (fun ls hl => ?_)
        refine lv_aload_n hx hb d_L_law_474 rfl (lv_at hl 4 rfl) ?_
        refine vp_callSi (va_runV (As := []) (rest := []) (C := RM) ⟨hx, hb, hml, hown, hts⟩ (m_M_thrown l D k b 0 r (nI d) N G t KR K T _) (cwV 0 hts (TB_g kl_L_57 ki_M_thrown ks_M_thrown kz_M (TB_c kc_M_thrown)) rfl rfl rfl (by decide +kernel) ⟨Nat.le_of_ble_eq_true rfl, Nat.le_of_ble_eq_true rfl⟩) ⟨PW.bl, va_recv (q := (RM, TM, 9)) (ci := 2) (q0 := 0) hK (cutM_P hP) rfl rfl, fun U hU hW => ⟨rfl, PW.go hK (cutM_P hP) (cutM_D hD) hS hA hE hU hW⟩⟩ rfl rfl hl.1 rfl (lv_room (Nat.le_of_ble_eq_true rfl)) d_L_law_475 ⟨(show cells + 1 + 0 + 0 ≤ 601024 by omega), (show slots + 6 + 0 + 0 ≤ 7293034 by omega)⟩).run (fun h1 hh1 => ?_)
        subst hh1
        refine lv_iload hx hb d_L_law_478 (lv_at hl 1 rfl) ?_
        refine lv_icmp_eq (tgt := 485) hx hb d_L_law_480 (by decide) (fun c_480 => ?_) (fun c_480 => ?_)
        · refine lv_iload hx hb d_L_law_485 (lv_at hl 1 rfl) ?_
          refine lv_if_ne (tgt := 501) hx hb d_L_law_487 (by decide) (fun c_487 => ?_) (fun c_487 => ?_)
          · exact absurd rfl c_487
          · refine lv_aload_n hx hb d_L_law_490 rfl (lv_at hl 5 rfl) ?_
            refine lv_iconst (v := 0) hx hb d_L_law_491 (by decide) ?_
            refine va_lald hx hb hK hP 0 0 rfl rfl (show vp_in (nI 0) 1 from vp_in_nI (by decide) (by decide)) d_L_law_492 ?_
            have er : O2 (0 : Int32).toNatClampNeg = x := by rw [g4, hI.2.1 _ (by omega), hI.2.2.1 _ (by omega)]; exact e5
            refine lv_lload hx hb d_L_law_493 (lv_at hl 0 rfl) ?_
            refine W.lcmp hx hb d_L_law_495 ?_
            refine lv_if_eq (tgt := 501) hx hb d_L_law_496 (by decide) (fun c_496 => ?_) (fun c_496 => ?_)
            · have c_496 : O2 (0 : Int32).toNatClampNeg = x := (lg_cmp_eq _ _).mp c_496
              refine lv_goto (tgt := 635) hx hb d_L_law_501 (by decide) ?_
              refine W.widen (k := cells + 2) (n := slots + 12) (by omega) (by omega) ?_
              exact kk d F V M R 0 r N G t KR K T O2 H locs ls hI hP hD hS (lv_sub hl [2, 3, 4, 5, 6] rfl)
            · have c_496 : ¬ O2 (0 : Int32).toNatClampNeg = x := fun q => c_496 ((lg_cmp_eq _ _).mpr q)
              exact absurd er c_496
        · exact absurd rfl c_480
    · exact absurd c_428 c_461
  · refine lv_iconst (v := 1) hx hb d_L_law_431 (by decide) ?_
    refine lv_goto (tgt := 436) hx hb d_L_law_432 (by decide) ?_
    refine lv_aload_n hx hb d_L_law_436 rfl (lv_at hl 3 rfl) ?_
    refine va_calli (vx_runSW (As := [.ref (a 0), .int s1, .int s2, .int 1, .ref q0]) (rest := []) ⟨hx, hb, hml, hown, hts⟩ (m_L_held l hl0 D k a d hd F V M R q0 O _ s1 s2 1 _) (vx_cwSW 5 hts (TB_g3 kl_L_74 kt_L_held kz_L (TB_c kc_L_held)) rfl rfl rfl (by decide +kernel) ⟨Nat.le_of_ble_eq_true rfl, Nat.le_of_ble_eq_true rfl⟩) ⟨PW.bl, fun U hU hW => ⟨rfl, PW.go hK hP hD hS hA hE hU hW⟩⟩ rfl rfl hl.1 rfl (lv_room (Nat.le_of_ble_eq_true rfl)) d_L_law_437 ⟨(show cells + 1 ≤ 601024 by omega), (show slots + 6 ≤ 7293034 by omega)⟩) hS (fun q _ h => cut_F hD hS hA q h) (cut_F hD hS hA) (fun y uu t1 H1 locs1 ht hvm hpost hB hz hk hS => ?_)
    obtain ⟨d2, V2, M2, R2, O2⟩ := uu
    dsimp only at hpost hB
    rw [ht] at hB
    have hP := hB
    have hD := hD.ad (lw_ad (d1 := nI d2) (F := F) (V := V2) (M := M2) (R := R2) (O := O2))
    generalize H1 = H at hP hS ⊢
    generalize locs1 = locs at hS ⊢
    refine lv_istore (lv' := [(5, .int y), (0, .ref b0), (1, .ref (a 0)), (2, .ref (b 0)), (3, .ref q0), (4, .int (nI n))]) hx hb d_L_law_440 hl (by decide) rfl (fun ls hl => ?_)
    refine lv_aload_n hx hb d_L_law_442 rfl (lv_at hl 3 rfl) ?_
    refine lv_aload_n hx hb d_L_law_443 rfl (lv_at hl 1 rfl) ?_
    refine lv_iload hx hb d_L_law_444 (lv_at hl 5 rfl) ?_
    refine lv_iconst (v := 1) hx hb d_L_law_446 (by decide) ?_
    refine lv_iadd hx hb d_L_law_447 ?_
    refine va_sld hx hb hX hbl hbA hS (scr_in (j := 1) (by omega) hL) d_L_law_448 ?_
    rw [← es1]
    refine lv_aload_n hx hb d_L_law_449 rfl (lv_at hl 1 rfl) ?_
    refine lv_iload hx hb d_L_law_450 (lv_at hl 5 rfl) ?_
    refine lv_iconst (v := 2) hx hb d_L_law_452 (by decide) ?_
    refine lv_iadd hx hb d_L_law_453 ?_
    refine va_sld hx hb hX hbl hbA hS (scr_in (j := 2) (by omega) hL) d_L_law_454 ?_
    rw [← es2]
    refine lv_aload_n hx hb d_L_law_455 rfl (lv_at hl 1 rfl) ?_
    refine lv_iload hx hb d_L_law_456 (lv_at hl 5 rfl) ?_
    refine lv_iconst (v := 3) hx hb d_L_law_458 (by decide) ?_
    refine lv_iadd hx hb d_L_law_459 ?_
    refine va_sld hx hb hX hbl hbA hS (scr_in (j := 3) (by omega) hL) d_L_law_460 ?_
    rw [← es3]
    refine lv_if_eq (tgt := 468) hx hb d_L_law_461 (by decide) (fun c_461 => ?_) (fun c_461 => ?_)
    · exact absurd c_461 c_428
    · refine lv_iconst (v := 1) hx hb d_L_law_464 (by decide) ?_
      refine lv_goto (tgt := 469) hx hb d_L_law_465 (by decide) ?_
      refine va_calll (va_runV (As := [.int s1, .int s2, .int 1]) (rest := []) (C := RM) ⟨hx, hb, hml, hown, hts⟩ (m_M_held l D k b f r (nI d) N G t KR K T s1 s2 1 _) (cwV 3 hts (TB_g kl_L_77 ki_M_held ks_M_held kz_M (TB_c kc_M_held)) rfl rfl rfl (by decide +kernel) ⟨Nat.le_of_ble_eq_true rfl, Nat.le_of_ble_eq_true rfl⟩) ⟨PW.bl, va_recv (q := (RM, TM, 9)) (ci := 2) (q0 := 0) hK (cutM_P hP) rfl rfl, fun U hU hW => ⟨rfl, PW.go hK (cutM_P hP) (cutM_D hD) hS hA hE hU hW⟩⟩ rfl rfl hl.1 rfl (lv_room (Nat.le_of_ble_eq_true rfl)) d_L_law_469 ⟨(show cells + 1 + 0 ≤ 601024 by omega), (show slots + 6 + 0 ≤ 7293034 by omega)⟩) hS (fun q _ h => cut_F (cutM_D hD) hS hA q h) (cut_F (cutM_D hD) hS hA) (fun x ww t2 H1 locs1 ht hvm hpost2 hB hz hk hS => ?_)
      rw [ht] at hB
      obtain ⟨hP, hD⟩ := cutM_J hP hD hk hB wm_ad
      generalize H1 = H at hP hS ⊢
      generalize locs1 = locs at hS ⊢
      rcases hpost with ⟨e0, hno, e1, e2, e3, e4⟩ | ⟨e0, g, h, hg, hh, e6, e7, e1, e2, e3, e4, e5⟩
      · rcases hpost2 with ⟨-, g2⟩ | ⟨g1, h1, hg1, hh1, g2, g3, -⟩
        rotate_left
        · exact absurd ⟨g1, h1, hg1, hh1, g2, g3⟩ hno
        subst g2
        have e1 := e1.symm
        have e2 := e2.symm
        have e3 := e3.symm
        have e4 := e4.symm
        subst e0 e1 e2 e3 e4
        refine lv_lstore (lv' := [(6, .long x), (5, .int 1), (0, .ref b0), (1, .ref (a 0)), (2, .ref (b 0)), (3, .ref q0), (4, .int (nI n))]) hx hb d_L_law_472 hl (by decide) rfl (fun ls hl => ?_)
        refine lv_aload_n hx hb d_L_law_474 rfl (lv_at hl 4 rfl) ?_
        refine vp_callSi (va_runV (As := []) (rest := []) (C := RM) ⟨hx, hb, hml, hown, hts⟩ (m_M_thrown l D k b 1 r (nI d) N G t KR K T _) (cwV 0 hts (TB_g kl_L_57 ki_M_thrown ks_M_thrown kz_M (TB_c kc_M_thrown)) rfl rfl rfl (by decide +kernel) ⟨Nat.le_of_ble_eq_true rfl, Nat.le_of_ble_eq_true rfl⟩) ⟨PW.bl, va_recv (q := (RM, TM, 9)) (ci := 2) (q0 := 0) hK (cutM_P hP) rfl rfl, fun U hU hW => ⟨rfl, PW.go hK (cutM_P hP) (cutM_D hD) hS hA hE hU hW⟩⟩ rfl rfl hl.1 rfl (lv_room (Nat.le_of_ble_eq_true rfl)) d_L_law_475 ⟨(show cells + 1 + 0 + 0 ≤ 601024 by omega), (show slots + 6 + 0 + 0 ≤ 7293034 by omega)⟩).run (fun h1 hh1 => ?_)
        subst hh1
        refine lv_iload hx hb d_L_law_478 (lv_at hl 1 rfl) ?_
        refine lv_icmp_eq (tgt := 485) hx hb d_L_law_480 (by decide) (fun c_480 => ?_) (fun c_480 => ?_)
        · refine lv_iload hx hb d_L_law_485 (lv_at hl 1 rfl) ?_
          refine lv_if_ne (tgt := 501) hx hb d_L_law_487 (by decide) (fun c_487 => ?_) (fun c_487 => ?_)
          · refine lv_goto (tgt := 635) hx hb d_L_law_501 (by decide) ?_
            refine W.widen (k := cells + 2) (n := slots + 12) (by omega) (by omega) ?_
            exact kk d F V M R 1 r N G t KR K T O2 H locs ls hI hP hD hS (lv_sub hl [2, 3, 4, 5, 6] rfl)
          · exact absurd c_487 (by decide)
        · exact absurd rfl c_480
      · rcases hpost2 with ⟨hno2, -⟩ | ⟨g1, h1, hg1, hh1, g2, g3, g4, g5⟩
        · exact absurd ⟨g, h, hg, hh, e6, e7⟩ hno2
        obtain rfl : g = g1 := nI_u (by omega) (by omega) (e6.symm.trans g2)
        obtain rfl : h = h1 := nI_u hh hh1 (e7.symm.trans g3)
        subst g5
        have e1 := e1.symm
        have e2 := e2.symm
        have e3 := e3.symm
        have e4 := e4.symm
        subst e0 e1 e2 e3 e4
        refine lv_lstore (lv' := [(6, .long x), (5, .int 0), (0, .ref b0), (1, .ref (a 0)), (2, .ref (b 0)), (3, .ref q0), (4, .int (nI n))]) hx hb d_L_law_472 hl (by decide) rfl (fun ls hl => ?_)
        refine lv_aload_n hx hb d_L_law_474 rfl (lv_at hl 4 rfl) ?_
        refine vp_callSi (va_runV (As := []) (rest := []) (C := RM) ⟨hx, hb, hml, hown, hts⟩ (m_M_thrown l D k b 0 r (nI d) N G t KR K T _) (cwV 0 hts (TB_g kl_L_57 ki_M_thrown ks_M_thrown kz_M (TB_c kc_M_thrown)) rfl rfl rfl (by decide +kernel) ⟨Nat.le_of_ble_eq_true rfl, Nat.le_of_ble_eq_true rfl⟩) ⟨PW.bl, va_recv (q := (RM, TM, 9)) (ci := 2) (q0 := 0) hK (cutM_P hP) rfl rfl, fun U hU hW => ⟨rfl, PW.go hK (cutM_P hP) (cutM_D hD) hS hA hE hU hW⟩⟩ rfl rfl hl.1 rfl (lv_room (Nat.le_of_ble_eq_true rfl)) d_L_law_475 ⟨(show cells + 1 + 0 + 0 ≤ 601024 by omega), (show slots + 6 + 0 + 0 ≤ 7293034 by omega)⟩).run (fun h1 hh1 => ?_)
        subst hh1
        refine lv_iload hx hb d_L_law_478 (lv_at hl 1 rfl) ?_
        refine lv_icmp_eq (tgt := 485) hx hb d_L_law_480 (by decide) (fun c_480 => ?_) (fun c_480 => ?_)
        · refine lv_iload hx hb d_L_law_485 (lv_at hl 1 rfl) ?_
          refine lv_if_ne (tgt := 501) hx hb d_L_law_487 (by decide) (fun c_487 => ?_) (fun c_487 => ?_)
          · exact absurd rfl c_487
          · refine lv_aload_n hx hb d_L_law_490 rfl (lv_at hl 5 rfl) ?_
            refine lv_iconst (v := 0) hx hb d_L_law_491 (by decide) ?_
            refine va_lald hx hb hK hP 0 0 rfl rfl (show vp_in (nI 0) 1 from vp_in_nI (by decide) (by decide)) d_L_law_492 ?_
            have er : O2 (0 : Int32).toNatClampNeg = x := by rw [g4, hI.2.1 _ (by omega), hI.2.2.1 _ (by omega)]; exact e5
            refine lv_lload hx hb d_L_law_493 (lv_at hl 0 rfl) ?_
            refine W.lcmp hx hb d_L_law_495 ?_
            refine lv_if_eq (tgt := 501) hx hb d_L_law_496 (by decide) (fun c_496 => ?_) (fun c_496 => ?_)
            · have c_496 : O2 (0 : Int32).toNatClampNeg = x := (lg_cmp_eq _ _).mp c_496
              refine lv_goto (tgt := 635) hx hb d_L_law_501 (by decide) ?_
              refine W.widen (k := cells + 2) (n := slots + 12) (by omega) (by omega) ?_
              exact kk d F V M R 0 r N G t KR K T O2 H locs ls hI hP hD hS (lv_sub hl [2, 3, 4, 5, 6] rfl)
            · have c_496 : ¬ O2 (0 : Int32).toNatClampNeg = x := fun q => c_496 ((lg_cmp_eq _ _).mpr q)
              exact absurd er c_496
        · exact absurd rfl c_480
set_option maxHeartbeats 4000000 in
set_option maxRecDepth 100000 in
theorem law_touched {p : Program} {l : Launch} {e : Env} {s : State} {m : MethodId} {below : List Frame} {meth : Method} {c : Code} {D : va_G} {k : Nat → ClassId} {a b : Nat → Nat} {q0 b0 L : Nat} {xs : Nat → Int32} (hl0 : l.stackTraces = false) (hL : L ≤ 3072) (C0 : lw_At p s m meth c b0 L xs) (hK : va_K D wCl (tyL k) s) (hE : EV (fun q : Nat => s.heap.size ≤ q) s) {n cells slots : Nat} (hn : n + 6 ≤ L) (hc : cells + 2 ≤ 601024) (hs : slots + 12 ≤ 7293034) (kk : lwS p l e s m below meth c D k a b q0 b0 n 635 (cells + 2) (slots + 12)) : lwS p l e s m below meth c D k a b q0 b0 n 504 (cells) (slots) := by
  obtain ⟨hx, hb, hr, hml, hown, hts0, hX, hbl, hlocks, hgv⟩ := C0
  have hts := TB_in hts0
  have hown : s.vm.findClass RL = some m.cls := hown
  have hA : ∀ q : Nat, s.heap.size ≤ q → (fun q : Nat => s.heap.size ≤ q) q := fun _ h => h
  have hbA : ¬ (fun q : Nat => s.heap.size ≤ q) b0 := Nat.not_le.mpr hbl
  intro d F V M R f r N G t KR K T O H locs ls hI hP hD hS hl
  have hd : d ≤ 30 := hI.1
  refine lv_aload_n hx hb d_L_law_504 rfl (lv_at hl 1 rfl) ?_
  refine lv_aload_n hx hb d_L_law_505 rfl (lv_at hl 0 rfl) ?_
  refine lv_iload hx hb d_L_law_506 (lv_at hl 4 rfl) ?_
  refine lv_iconst (v := 1) hx hb d_L_law_508 (by decide) ?_
  refine lv_iadd hx hb d_L_law_509 ?_
  refine va_sld hx hb hX hbl hbA hS (scr_in (j := 1) (by omega) hL) d_L_law_510 ?_
  refine lv_topi (fun s1 es1 => ?_)
  refine lv_aload_n hx hb d_L_law_511 rfl (lv_at hl 0 rfl) ?_
  refine lv_iload hx hb d_L_law_512 (lv_at hl 4 rfl) ?_
  refine lv_iconst (v := 2) hx hb d_L_law_514 (by decide) ?_
  refine lv_iadd hx hb d_L_law_515 ?_
  refine va_sld hx hb hX hbl hbA hS (scr_in (j := 2) (by omega) hL) d_L_law_516 ?_
  refine lv_topi (fun s2 es2 => ?_)
  refine lv_aload_n hx hb d_L_law_517 rfl (lv_at hl 3 rfl) ?_
  refine va_calli (vx_runSW (As := [.ref (a 0), .int s1, .int s2, .ref q0]) (rest := []) ⟨hx, hb, hml, hown, hts⟩ (m_L_touched l hl0 D k a d hd F V M R q0 O _ s1 s2 _) (vx_cwSW 4 hts (TB_g3 kl_L_78 kt_L_touched kz_L (TB_c kc_L_touched)) rfl rfl rfl (by decide +kernel) ⟨Nat.le_of_ble_eq_true rfl, Nat.le_of_ble_eq_true rfl⟩) ⟨PW.bl, fun U hU hW => ⟨rfl, PW.go hK hP hD hS hA hE hU hW⟩⟩ rfl rfl hl.1 rfl (lv_room (Nat.le_of_ble_eq_true rfl)) d_L_law_518 ⟨(show cells + 1 ≤ 601024 by omega), (show slots + 6 ≤ 7293034 by omega)⟩) hS (fun q _ h => cut_F hD hS hA q h) (cut_F hD hS hA) (fun y uu t1 H1 locs1 ht hvm hpost hB hz hk hS => ?_)
  obtain ⟨d2, V2, M2, R2, O2⟩ := uu
  dsimp only at hpost hB
  rw [ht] at hB
  have hP := hB
  have hD := hD.ad (lw_ad (d1 := nI d2) (F := F) (V := V2) (M := M2) (R := R2) (O := O2))
  generalize H1 = H at hP hS ⊢
  generalize locs1 = locs at hS ⊢
  refine lv_istore (lv' := [(5, .int y), (0, .ref b0), (1, .ref (a 0)), (2, .ref (b 0)), (3, .ref q0), (4, .int (nI n))]) hx hb d_L_law_521 hl (by decide) rfl (fun ls hl => ?_)
  refine lv_aload_n hx hb d_L_law_523 rfl (lv_at hl 3 rfl) ?_
  refine lv_aload_n hx hb d_L_law_524 rfl (lv_at hl 1 rfl) ?_
  refine lv_iload hx hb d_L_law_525 (lv_at hl 5 rfl) ?_
  refine lv_iconst (v := 1) hx hb d_L_law_527 (by decide) ?_
  refine lv_iadd hx hb d_L_law_528 ?_
  refine va_sld hx hb hX hbl hbA hS (scr_in (j := 1) (by omega) hL) d_L_law_529 ?_
  rw [← es1]
  refine lv_aload_n hx hb d_L_law_530 rfl (lv_at hl 1 rfl) ?_
  refine lv_iload hx hb d_L_law_531 (lv_at hl 5 rfl) ?_
  refine lv_iconst (v := 2) hx hb d_L_law_533 (by decide) ?_
  refine lv_iadd hx hb d_L_law_534 ?_
  refine va_sld hx hb hX hbl hbA hS (scr_in (j := 2) (by omega) hL) d_L_law_535 ?_
  rw [← es2]
  refine va_calli (va_runV (As := [.int s1, .int s2]) (rest := []) (C := RM) ⟨hx, hb, hml, hown, hts⟩ (m_M_touched l D k b f r (nI d) N G t KR K T s1 s2 _) (cwV 2 hts (TB_g kl_L_80 ki_M_touched ks_M_touched kz_M (TB_c kc_M_touched)) rfl rfl rfl (by decide +kernel) ⟨Nat.le_of_ble_eq_true rfl, Nat.le_of_ble_eq_true rfl⟩) ⟨PW.bl, va_recv (q := (RM, TM, 9)) (ci := 2) (q0 := 0) hK (cutM_P hP) rfl rfl, fun U hU hW => ⟨rfl, PW.go hK (cutM_P hP) (cutM_D hD) hS hA hE hU hW⟩⟩ rfl rfl hl.1 rfl (lv_room (Nat.le_of_ble_eq_true rfl)) d_L_law_536 ⟨(show cells + 1 + 0 ≤ 601024 by omega), (show slots + 6 + 0 ≤ 7293034 by omega)⟩) hS (fun q _ h => cut_F (cutM_D hD) hS hA q h) (cut_F (cutM_D hD) hS hA) (fun x ww t2 H1 locs1 ht hvm hpost2 hB hz hk hS => ?_)
  rw [ht] at hB
  obtain ⟨hP, hD⟩ := cutM_J hP hD hk hB wm_ad
  generalize H1 = H at hP hS ⊢
  generalize locs1 = locs at hS ⊢
  rcases hpost with ⟨e0, hno, e1, e2, e3, e4⟩ | ⟨e0, g, h, hg, hh, e6, e7, e1, e2, e3, e4, e5⟩
  · rcases hpost2 with ⟨-, g2⟩ | ⟨g1, h1, hg1, hh1, g2, g3, -⟩
    rotate_left
    · exact absurd ⟨g1, h1, hg1, hh1, g2, g3⟩ hno
    subst g2
    have e1 := e1.symm
    have e2 := e2.symm
    have e3 := e3.symm
    have e4 := e4.symm
    subst e0 e1 e2 e3 e4
    refine lv_istore (lv' := [(6, .int x), (5, .int 1), (0, .ref b0), (1, .ref (a 0)), (2, .ref (b 0)), (3, .ref q0), (4, .int (nI n))]) hx hb d_L_law_539 hl (by decide) rfl (fun ls hl => ?_)
    refine lv_aload_n hx hb d_L_law_541 rfl (lv_at hl 4 rfl) ?_
    refine vp_callSi (va_runV (As := []) (rest := []) (C := RM) ⟨hx, hb, hml, hown, hts⟩ (m_M_thrown l D k b 1 r (nI d) N G t KR K T _) (cwV 0 hts (TB_g kl_L_57 ki_M_thrown ks_M_thrown kz_M (TB_c kc_M_thrown)) rfl rfl rfl (by decide +kernel) ⟨Nat.le_of_ble_eq_true rfl, Nat.le_of_ble_eq_true rfl⟩) ⟨PW.bl, va_recv (q := (RM, TM, 9)) (ci := 2) (q0 := 0) hK (cutM_P hP) rfl rfl, fun U hU hW => ⟨rfl, PW.go hK (cutM_P hP) (cutM_D hD) hS hA hE hU hW⟩⟩ rfl rfl hl.1 rfl (lv_room (Nat.le_of_ble_eq_true rfl)) d_L_law_542 ⟨(show cells + 1 + 0 + 0 ≤ 601024 by omega), (show slots + 6 + 0 + 0 ≤ 7293034 by omega)⟩).run (fun h1 hh1 => ?_)
    subst hh1
    refine lv_iload hx hb d_L_law_545 (lv_at hl 1 rfl) ?_
    refine lv_icmp_eq (tgt := 552) hx hb d_L_law_547 (by decide) (fun c_547 => ?_) (fun c_547 => ?_)
    · refine lv_iload hx hb d_L_law_552 (lv_at hl 1 rfl) ?_
      refine lv_if_ne (tgt := 576) hx hb d_L_law_554 (by decide) (fun c_554 => ?_) (fun c_554 => ?_)
      · refine lv_goto (tgt := 635) hx hb d_L_law_576 (by decide) ?_
        refine W.widen (k := cells + 2) (n := slots + 12) (by omega) (by omega) ?_
        exact kk d F V M R 1 r N G t KR K T O2 H locs ls hI hP hD hS (lv_sub hl [2, 3, 4, 5, 6] rfl)
      · exact absurd c_554 (by decide)
    · exact absurd rfl c_547
  · rcases hpost2 with ⟨hno2, -⟩ | ⟨g1, h1, hg1, hh1, g2, g3, g4, g5⟩
    · exact absurd ⟨g, h, hg, hh, e6, e7⟩ hno2
    obtain rfl : g = g1 := nI_u (by omega) (by omega) (e6.symm.trans g2)
    obtain rfl : h = h1 := nI_u hh hh1 (e7.symm.trans g3)
    subst g5
    have e1 := e1.symm
    have e2 := e2.symm
    have e3 := e3.symm
    have e4 := e4.symm
    subst e0 e1 e2 e3 e4
    have htt := hI.2.2.2.1 g h hg hh
    refine lv_istore (lv' := [(6, .int x), (5, .int 0), (0, .ref b0), (1, .ref (a 0)), (2, .ref (b 0)), (3, .ref q0), (4, .int (nI n))]) hx hb d_L_law_539 hl (by decide) rfl (fun ls hl => ?_)
    refine lv_aload_n hx hb d_L_law_541 rfl (lv_at hl 4 rfl) ?_
    refine vp_callSi (va_runV (As := []) (rest := []) (C := RM) ⟨hx, hb, hml, hown, hts⟩ (m_M_thrown l D k b 0 r (nI d) N G t KR K T _) (cwV 0 hts (TB_g kl_L_57 ki_M_thrown ks_M_thrown kz_M (TB_c kc_M_thrown)) rfl rfl rfl (by decide +kernel) ⟨Nat.le_of_ble_eq_true rfl, Nat.le_of_ble_eq_true rfl⟩) ⟨PW.bl, va_recv (q := (RM, TM, 9)) (ci := 2) (q0 := 0) hK (cutM_P hP) rfl rfl, fun U hU hW => ⟨rfl, PW.go hK (cutM_P hP) (cutM_D hD) hS hA hE hU hW⟩⟩ rfl rfl hl.1 rfl (lv_room (Nat.le_of_ble_eq_true rfl)) d_L_law_542 ⟨(show cells + 1 + 0 + 0 ≤ 601024 by omega), (show slots + 6 + 0 + 0 ≤ 7293034 by omega)⟩).run (fun h1 hh1 => ?_)
    subst hh1
    refine lv_iload hx hb d_L_law_545 (lv_at hl 1 rfl) ?_
    refine lv_icmp_eq (tgt := 552) hx hb d_L_law_547 (by decide) (fun c_547 => ?_) (fun c_547 => ?_)
    · refine lv_iload hx hb d_L_law_552 (lv_at hl 1 rfl) ?_
      refine lv_if_ne (tgt := 576) hx hb d_L_law_554 (by decide) (fun c_554 => ?_) (fun c_554 => ?_)
      · exact absurd rfl c_554
      · refine lv_aload_n hx hb d_L_law_557 rfl (lv_at hl 5 rfl) ?_
        refine lv_iconst (v := 0) hx hb d_L_law_558 (by decide) ?_
        refine va_lald hx hb hK hP 0 0 rfl rfl (show vp_in (nI 0) 1 from vp_in_nI (by decide) (by decide)) d_L_law_559 ?_
        refine lv_iload hx hb d_L_law_560 (lv_at hl 0 rfl) ?_
        refine lv_if_eq (tgt := 569) hx hb d_L_law_562 (by decide) (fun c_562 => ?_) (fun c_562 => ?_)
        · have er : O2 (0 : Int32).toNatClampNeg = 0 := by rw [g4, htt] at c_562; refine Eq.trans e5 ?_; cases hq : tb (M d g) h <;> rw [hq] at c_562 <;> first | rfl | exact absurd rfl c_562 | exact absurd c_562 (by decide)
          refine lv_lconst (v := 0) hx hb d_L_law_569 (by decide) ?_
          refine W.lcmp hx hb d_L_law_570 ?_
          refine lv_if_eq (tgt := 576) hx hb d_L_law_571 (by decide) (fun c_571 => ?_) (fun c_571 => ?_)
          · have c_571 : O2 (0 : Int32).toNatClampNeg = 0 := (lg_cmp_eq _ _).mp c_571
            refine lv_goto (tgt := 635) hx hb d_L_law_576 (by decide) ?_
            refine W.widen (k := cells + 2) (n := slots + 12) (by omega) (by omega) ?_
            exact kk d F V M R 0 r N G t KR K T O2 H locs ls hI hP hD hS (lv_sub hl [2, 3, 4, 5, 6] rfl)
          · have c_571 : ¬ O2 (0 : Int32).toNatClampNeg = 0 := fun q => c_571 ((lg_cmp_eq _ _).mpr q)
            exact absurd er c_571
        · have er : O2 (0 : Int32).toNatClampNeg = 1 := by rw [g4, htt] at c_562; refine Eq.trans e5 ?_; cases hq : tb (M d g) h <;> rw [hq] at c_562 <;> first | rfl | exact absurd rfl c_562 | exact absurd c_562 (by decide)
          refine lv_lconst (v := 1) hx hb d_L_law_565 (by decide) ?_
          refine lv_goto (tgt := 570) hx hb d_L_law_566 (by decide) ?_
          refine W.lcmp hx hb d_L_law_570 ?_
          refine lv_if_eq (tgt := 576) hx hb d_L_law_571 (by decide) (fun c_571 => ?_) (fun c_571 => ?_)
          · have c_571 : O2 (0 : Int32).toNatClampNeg = 1 := (lg_cmp_eq _ _).mp c_571
            refine lv_goto (tgt := 635) hx hb d_L_law_576 (by decide) ?_
            refine W.widen (k := cells + 2) (n := slots + 12) (by omega) (by omega) ?_
            exact kk d F V M R 0 r N G t KR K T O2 H locs ls hI hP hD hS (lv_sub hl [2, 3, 4, 5, 6] rfl)
          · have c_571 : ¬ O2 (0 : Int32).toNatClampNeg = 1 := fun q => c_571 ((lg_cmp_eq _ _).mpr q)
            exact absurd er c_571
    · exact absurd rfl c_547
set_option maxHeartbeats 4000000 in
set_option maxRecDepth 100000 in
theorem law_count {p : Program} {l : Launch} {e : Env} {s : State} {m : MethodId} {below : List Frame} {meth : Method} {c : Code} {D : va_G} {k : Nat → ClassId} {a b : Nat → Nat} {q0 b0 L : Nat} {xs : Nat → Int32} (hl0 : l.stackTraces = false) (hL : L ≤ 3072) (C0 : lw_At p s m meth c b0 L xs) (hK : va_K D wCl (tyL k) s) (hE : EV (fun q : Nat => s.heap.size ≤ q) s) {n cells slots : Nat} (hn : n + 6 ≤ L) (hc : cells + 2 ≤ 601024) (hs : slots + 12 ≤ 7293034) (kk : lwS p l e s m below meth c D k a b q0 b0 n 635 (cells + 2) (slots + 12)) : lwS p l e s m below meth c D k a b q0 b0 n 579 (cells) (slots) := by
  obtain ⟨hx, hb, hr, hml, hown, hts0, hX, hbl, hlocks, hgv⟩ := C0
  have hts := TB_in hts0
  have hown : s.vm.findClass RL = some m.cls := hown
  have hA : ∀ q : Nat, s.heap.size ≤ q → (fun q : Nat => s.heap.size ≤ q) q := fun _ h => h
  have hbA : ¬ (fun q : Nat => s.heap.size ≤ q) b0 := Nat.not_le.mpr hbl
  intro d F V M R f r N G t KR K T O H locs ls hI hP hD hS hl
  have hd : d ≤ 30 := hI.1
  refine lv_aload_n hx hb d_L_law_579 rfl (lv_at hl 1 rfl) ?_
  refine lv_aload_n hx hb d_L_law_580 rfl (lv_at hl 0 rfl) ?_
  refine lv_iload hx hb d_L_law_581 (lv_at hl 4 rfl) ?_
  refine lv_iconst (v := 1) hx hb d_L_law_583 (by decide) ?_
  refine lv_iadd hx hb d_L_law_584 ?_
  refine va_sld hx hb hX hbl hbA hS (scr_in (j := 1) (by omega) hL) d_L_law_585 ?_
  refine lv_topi (fun s1 es1 => ?_)
  refine lv_aload_n hx hb d_L_law_586 rfl (lv_at hl 3 rfl) ?_
  refine va_calli (vx_runSW (As := [.ref (a 0), .int s1, .ref q0]) (rest := []) ⟨hx, hb, hml, hown, hts⟩ (m_L_count l hl0 D k a d hd F V M R q0 O _ s1 _) (vx_cwSW 3 hts (TB_g3 kl_L_81 kt_L_count kz_L (TB_c kc_L_count)) rfl rfl rfl (by decide +kernel) ⟨Nat.le_of_ble_eq_true rfl, Nat.le_of_ble_eq_true rfl⟩) ⟨PW.bl, fun U hU hW => ⟨rfl, PW.go hK hP hD hS hA hE hU hW⟩⟩ rfl rfl hl.1 rfl (lv_room (Nat.le_of_ble_eq_true rfl)) d_L_law_587 ⟨(show cells + 1 ≤ 601024 by omega), (show slots + 6 ≤ 7293034 by omega)⟩) hS (fun q _ h => cut_F hD hS hA q h) (cut_F hD hS hA) (fun y uu t1 H1 locs1 ht hvm hpost hB hz hk hS => ?_)
  obtain ⟨d2, V2, M2, R2, O2⟩ := uu
  dsimp only at hpost hB
  rw [ht] at hB
  have hP := hB
  have hD := hD.ad (lw_ad (d1 := nI d2) (F := F) (V := V2) (M := M2) (R := R2) (O := O2))
  generalize H1 = H at hP hS ⊢
  generalize locs1 = locs at hS ⊢
  refine lv_istore (lv' := [(5, .int y), (0, .ref b0), (1, .ref (a 0)), (2, .ref (b 0)), (3, .ref q0), (4, .int (nI n))]) hx hb d_L_law_590 hl (by decide) rfl (fun ls hl => ?_)
  refine lv_aload_n hx hb d_L_law_592 rfl (lv_at hl 3 rfl) ?_
  refine lv_aload_n hx hb d_L_law_593 rfl (lv_at hl 1 rfl) ?_
  refine lv_iload hx hb d_L_law_594 (lv_at hl 5 rfl) ?_
  refine lv_iconst (v := 1) hx hb d_L_law_596 (by decide) ?_
  refine lv_iadd hx hb d_L_law_597 ?_
  refine va_sld hx hb hX hbl hbA hS (scr_in (j := 1) (by omega) hL) d_L_law_598 ?_
  rw [← es1]
  refine va_calli (va_runV (As := [.int s1]) (rest := []) (C := RM) ⟨hx, hb, hml, hown, hts⟩ (m_M_count l D k b f r (nI d) N G t KR K T s1 _) (cwV 1 hts (TB_g kl_L_84 ki_M_count ks_M_count kz_M (TB_c kc_M_count)) rfl rfl rfl (by decide +kernel) ⟨Nat.le_of_ble_eq_true rfl, Nat.le_of_ble_eq_true rfl⟩) ⟨PW.bl, va_recv (q := (RM, TM, 9)) (ci := 2) (q0 := 0) hK (cutM_P hP) rfl rfl, fun U hU hW => ⟨rfl, PW.go hK (cutM_P hP) (cutM_D hD) hS hA hE hU hW⟩⟩ rfl rfl hl.1 rfl (lv_room (Nat.le_of_ble_eq_true rfl)) d_L_law_599 ⟨(show cells + 1 + 0 ≤ 601024 by omega), (show slots + 6 + 0 ≤ 7293034 by omega)⟩) hS (fun q _ h => cut_F (cutM_D hD) hS hA q h) (cut_F (cutM_D hD) hS hA) (fun x ww t2 H1 locs1 ht hvm hpost2 hB hz hk hS => ?_)
  rw [ht] at hB
  obtain ⟨hP, hD⟩ := cutM_J hP hD hk hB wm_ad
  generalize H1 = H at hP hS ⊢
  generalize locs1 = locs at hS ⊢
  rcases hpost with ⟨e0, hno, e1, e2, e3, e4⟩ | ⟨e0, g, x1, hg, e6, e1, e2, e3, e4, e5, i0, i1, i2, i3⟩
  · rcases hpost2 with ⟨-, g2⟩ | ⟨g1, hg1, g2, -⟩
    rotate_left
    · exact absurd ⟨g1, hg1, g2⟩ hno
    subst g2
    have e1 := e1.symm
    have e2 := e2.symm
    have e3 := e3.symm
    have e4 := e4.symm
    subst e0 e1 e2 e3 e4
    refine lv_istore (lv' := [(6, .int x), (5, .int 1), (0, .ref b0), (1, .ref (a 0)), (2, .ref (b 0)), (3, .ref q0), (4, .int (nI n))]) hx hb d_L_law_602 hl (by decide) rfl (fun ls hl => ?_)
    refine lv_aload_n hx hb d_L_law_604 rfl (lv_at hl 4 rfl) ?_
    refine vp_callSi (va_runV (As := []) (rest := []) (C := RM) ⟨hx, hb, hml, hown, hts⟩ (m_M_thrown l D k b 1 r (nI d) N G t KR K T _) (cwV 0 hts (TB_g kl_L_57 ki_M_thrown ks_M_thrown kz_M (TB_c kc_M_thrown)) rfl rfl rfl (by decide +kernel) ⟨Nat.le_of_ble_eq_true rfl, Nat.le_of_ble_eq_true rfl⟩) ⟨PW.bl, va_recv (q := (RM, TM, 9)) (ci := 2) (q0 := 0) hK (cutM_P hP) rfl rfl, fun U hU hW => ⟨rfl, PW.go hK (cutM_P hP) (cutM_D hD) hS hA hE hU hW⟩⟩ rfl rfl hl.1 rfl (lv_room (Nat.le_of_ble_eq_true rfl)) d_L_law_605 ⟨(show cells + 1 + 0 + 0 ≤ 601024 by omega), (show slots + 6 + 0 + 0 ≤ 7293034 by omega)⟩).run (fun h1 hh1 => ?_)
    subst hh1
    refine lv_iload hx hb d_L_law_608 (lv_at hl 1 rfl) ?_
    refine lv_icmp_eq (tgt := 615) hx hb d_L_law_610 (by decide) (fun c_610 => ?_) (fun c_610 => ?_)
    · refine lv_iload hx hb d_L_law_615 (lv_at hl 1 rfl) ?_
      refine lv_if_ne (tgt := 632) hx hb d_L_law_617 (by decide) (fun c_617 => ?_) (fun c_617 => ?_)
      · refine lv_goto (tgt := 635) hx hb d_L_law_632 (by decide) ?_
        refine W.widen (k := cells + 2) (n := slots + 12) (by omega) (by omega) ?_
        exact kk d F V M R 1 r N G t KR K T O2 H locs ls hI hP hD hS (lv_sub hl [2, 3, 4, 5, 6] rfl)
      · exact absurd c_617 (by decide)
    · exact absurd rfl c_610
  · rcases hpost2 with ⟨hno2, -⟩ | ⟨g1, hg1, g2, g5, j0, j1, j2, j3⟩
    · exact absurd ⟨g, hg, e6⟩ hno2
    obtain rfl : g = g1 := nI_u (by omega) (by omega) (e6.symm.trans g2)
    subst g5
    have e1 := e1.symm
    have e2 := e2.symm
    have e3 := e3.symm
    have e4 := e4.symm
    subst e0 e1 e2 e3 e4
    have hxx : x1 = x := by
      rcases (show g = 0 ∨ g = 1 ∨ g = 2 ∨ g = 3 by omega) with h | h | h | h
      · rw [i0 h, j0 h, hI.2.2.2.2.1]
      · rw [i1 h, j1 h, cntb_all hI.2.2.2.1]
      · rw [i2 h, j2 h]
      · rw [i3 h, j3 h, cnt_congr 256 (fun j hj => hI.2.2.1 j hj)]
    refine lv_istore (lv' := [(6, .int x), (5, .int 0), (0, .ref b0), (1, .ref (a 0)), (2, .ref (b 0)), (3, .ref q0), (4, .int (nI n))]) hx hb d_L_law_602 hl (by decide) rfl (fun ls hl => ?_)
    refine lv_aload_n hx hb d_L_law_604 rfl (lv_at hl 4 rfl) ?_
    refine vp_callSi (va_runV (As := []) (rest := []) (C := RM) ⟨hx, hb, hml, hown, hts⟩ (m_M_thrown l D k b 0 r (nI d) N G t KR K T _) (cwV 0 hts (TB_g kl_L_57 ki_M_thrown ks_M_thrown kz_M (TB_c kc_M_thrown)) rfl rfl rfl (by decide +kernel) ⟨Nat.le_of_ble_eq_true rfl, Nat.le_of_ble_eq_true rfl⟩) ⟨PW.bl, va_recv (q := (RM, TM, 9)) (ci := 2) (q0 := 0) hK (cutM_P hP) rfl rfl, fun U hU hW => ⟨rfl, PW.go hK (cutM_P hP) (cutM_D hD) hS hA hE hU hW⟩⟩ rfl rfl hl.1 rfl (lv_room (Nat.le_of_ble_eq_true rfl)) d_L_law_605 ⟨(show cells + 1 + 0 + 0 ≤ 601024 by omega), (show slots + 6 + 0 + 0 ≤ 7293034 by omega)⟩).run (fun h1 hh1 => ?_)
    subst hh1
    refine lv_iload hx hb d_L_law_608 (lv_at hl 1 rfl) ?_
    refine lv_icmp_eq (tgt := 615) hx hb d_L_law_610 (by decide) (fun c_610 => ?_) (fun c_610 => ?_)
    · refine lv_iload hx hb d_L_law_615 (lv_at hl 1 rfl) ?_
      refine lv_if_ne (tgt := 632) hx hb d_L_law_617 (by decide) (fun c_617 => ?_) (fun c_617 => ?_)
      · exact absurd rfl c_617
      · refine lv_aload_n hx hb d_L_law_620 rfl (lv_at hl 5 rfl) ?_
        refine lv_iconst (v := 0) hx hb d_L_law_621 (by decide) ?_
        refine va_lald hx hb hK hP 0 0 rfl rfl (show vp_in (nI 0) 1 from vp_in_nI (by decide) (by decide)) d_L_law_622 ?_
        have er : O2 (0 : Int32).toNatClampNeg = ((x) : Int32).toInt64 := by rw [← hxx]; exact e5
        refine lv_iload hx hb d_L_law_623 (lv_at hl 0 rfl) ?_
        refine lv_i2l hx hb d_L_law_625 rfl ?_
        refine W.lcmp hx hb d_L_law_626 ?_
        refine lv_if_eq (tgt := 632) hx hb d_L_law_627 (by decide) (fun c_627 => ?_) (fun c_627 => ?_)
        · have c_627 : O2 (0 : Int32).toNatClampNeg = ((x) : Int32).toInt64 := (lg_cmp_eq _ _).mp c_627
          refine lv_goto (tgt := 635) hx hb d_L_law_632 (by decide) ?_
          refine W.widen (k := cells + 2) (n := slots + 12) (by omega) (by omega) ?_
          exact kk d F V M R 0 r N G t KR K T O2 H locs ls hI hP hD hS (lv_sub hl [2, 3, 4, 5, 6] rfl)
        · have c_627 : ¬ O2 (0 : Int32).toNatClampNeg = ((x) : Int32).toInt64 := fun q => c_627 ((lg_cmp_eq _ _).mpr q)
          exact absurd er c_627
    · exact absurd rfl c_610
set_option maxHeartbeats 4000000 in
set_option maxRecDepth 100000 in
theorem law_store {p : Program} {l : Launch} {e : Env} {s : State} {m : MethodId} {below : List Frame} {meth : Method} {c : Code} {D : va_G} {k : Nat → ClassId} {a b : Nat → Nat} {q0 b0 L : Nat} {xs : Nat → Int32} (hl0 : l.stackTraces = false) (hL : L ≤ 3072) (C0 : lw_At p s m meth c b0 L xs) (hK : va_K D wCl (tyL k) s) (hE : EV (fun q : Nat => s.heap.size ≤ q) s) {n cells slots : Nat} (hn : n + 6 ≤ L) (hc : cells + 2 ≤ 601024) (hs : slots + 12 ≤ 7293034) (kk : lwS p l e s m below meth c D k a b q0 b0 n 635 (cells + 2) (slots + 12)) : lwS p l e s m below meth c D k a b q0 b0 n 285 (cells) (slots) := by
  obtain ⟨hx, hb, hr, hml, hown, hts0, hX, hbl, hlocks, hgv⟩ := C0
  have hts := TB_in hts0
  have hown : s.vm.findClass RL = some m.cls := hown
  have hA : ∀ q : Nat, s.heap.size ≤ q → (fun q : Nat => s.heap.size ≤ q) q := fun _ h => h
  have hbA : ¬ (fun q : Nat => s.heap.size ≤ q) b0 := Nat.not_le.mpr hbl
  intro d F V M R f r N G t KR K T O H locs ls hI hP hD hS hl
  have hd : d ≤ 30 := hI.1
  refine lv_aload_n hx hb d_L_law_285 rfl (lv_at hl 1 rfl) ?_
  refine lv_aload_n hx hb d_L_law_286 rfl (lv_at hl 0 rfl) ?_
  refine lv_iload hx hb d_L_law_287 (lv_at hl 4 rfl) ?_
  refine lv_iconst (v := 1) hx hb d_L_law_289 (by decide) ?_
  refine lv_iadd hx hb d_L_law_290 ?_
  refine va_sld hx hb hX hbl hbA hS (scr_in (j := 1) (by omega) hL) d_L_law_291 ?_
  refine lv_topi (fun s1 es1 => ?_)
  refine lv_aload_n hx hb d_L_law_292 rfl (lv_at hl 0 rfl) ?_
  refine lv_iload hx hb d_L_law_293 (lv_at hl 4 rfl) ?_
  refine lv_iconst (v := 2) hx hb d_L_law_295 (by decide) ?_
  refine lv_iadd hx hb d_L_law_296 ?_
  refine va_sld hx hb hX hbl hbA hS (scr_in (j := 2) (by omega) hL) d_L_law_297 ?_
  refine lv_topi (fun s2 es2 => ?_)
  refine lv_aload_n hx hb d_L_law_298 rfl (lv_at hl 0 rfl) ?_
  refine lv_iload hx hb d_L_law_299 (lv_at hl 4 rfl) ?_
  refine lv_iconst (v := 3) hx hb d_L_law_301 (by decide) ?_
  refine lv_iadd hx hb d_L_law_302 ?_
  refine va_sld hx hb hX hbl hbA hS (scr_in (j := 3) (by omega) hL) d_L_law_303 ?_
  refine lv_topi (fun s3 es3 => ?_)
  refine lv_i2l hx hb d_L_law_304 rfl ?_
  refine lv_bipush (v := 32) hx hb d_L_law_305 (by decide) ?_
  refine lv_lshl hx hb d_L_law_307 rfl ?_
  refine lv_aload_n hx hb d_L_law_308 rfl (lv_at hl 0 rfl) ?_
  refine lv_iload hx hb d_L_law_309 (lv_at hl 4 rfl) ?_
  refine lv_iconst (v := 4) hx hb d_L_law_311 (by decide) ?_
  refine lv_iadd hx hb d_L_law_312 ?_
  refine va_sld hx hb hX hbl hbA hS (scr_in (j := 4) (by omega) hL) d_L_law_313 ?_
  refine lv_topi (fun s4 es4 => ?_)
  refine lv_i2l hx hb d_L_law_314 rfl ?_
  refine lv_ldc2 hx hb hown (hts _ kd_L_68) d_L_law_315 ?_
  refine lv_land hx hb d_L_law_318 ?_
  refine lv_lor hx hb d_L_law_319 ?_
  refine lv_topl (fun vv evv => ?_)
  refine lv_aload_n hx hb d_L_law_320 rfl (lv_at hl 0 rfl) ?_
  refine lv_iload hx hb d_L_law_321 (lv_at hl 4 rfl) ?_
  refine lv_iconst (v := 5) hx hb d_L_law_323 (by decide) ?_
  refine lv_iadd hx hb d_L_law_324 ?_
  refine va_sld hx hb hX hbl hbA hS (scr_in (j := 5) (by omega) hL) d_L_law_325 ?_
  refine lv_topi (fun s5 es5 => ?_)
  refine lv_aload_n hx hb d_L_law_326 rfl (lv_at hl 3 rfl) ?_
  refine va_calli (vx_runSW (As := [.ref (a 0), .int s1, .int s2, .long vv, .int s5, .ref q0]) (rest := []) ⟨hx, hb, hml, hown, hts⟩ (m_L_store l hl0 D k a d hd F V M R q0 O _ s1 s2 vv s5 _) (vx_cwSW 6 hts (TB_g3 kl_L_70 kt_L_store kz_L (TB_c kc_L_store)) rfl rfl rfl (by decide +kernel) ⟨Nat.le_of_ble_eq_true rfl, Nat.le_of_ble_eq_true rfl⟩) ⟨PW.bl, fun U hU hW => ⟨rfl, PW.go hK hP hD hS hA hE hU hW⟩⟩ rfl rfl hl.1 rfl (lv_room (Nat.le_of_ble_eq_true rfl)) d_L_law_327 ⟨(show cells + 2 ≤ 601024 by omega), (show slots + 12 ≤ 7293034 by omega)⟩) hS (fun q _ h => cut_F hD hS hA q h) (cut_F hD hS hA) (fun y uu t1 H1 locs1 ht hvm hpost hB hz hk hS => ?_)
  obtain ⟨d2, V2, M2, R2, O2⟩ := uu
  dsimp only at hpost hB
  rw [ht] at hB
  have hP := hB
  have hD := hD.ad (lw_ad (d1 := nI d2) (F := F) (V := V2) (M := M2) (R := R2) (O := O2))
  generalize H1 = H at hP hS ⊢
  generalize locs1 = locs at hS ⊢
  refine lv_istore (lv' := [(5, .int y), (0, .ref b0), (1, .ref (a 0)), (2, .ref (b 0)), (3, .ref q0), (4, .int (nI n))]) hx hb d_L_law_330 hl (by decide) rfl (fun ls hl => ?_)
  refine lv_aload_n hx hb d_L_law_332 rfl (lv_at hl 3 rfl) ?_
  refine lv_aload_n hx hb d_L_law_333 rfl (lv_at hl 1 rfl) ?_
  refine lv_iload hx hb d_L_law_334 (lv_at hl 5 rfl) ?_
  refine lv_iconst (v := 1) hx hb d_L_law_336 (by decide) ?_
  refine lv_iadd hx hb d_L_law_337 ?_
  refine va_sld hx hb hX hbl hbA hS (scr_in (j := 1) (by omega) hL) d_L_law_338 ?_
  rw [← es1]
  refine lv_aload_n hx hb d_L_law_339 rfl (lv_at hl 1 rfl) ?_
  refine lv_iload hx hb d_L_law_340 (lv_at hl 5 rfl) ?_
  refine lv_iconst (v := 2) hx hb d_L_law_342 (by decide) ?_
  refine lv_iadd hx hb d_L_law_343 ?_
  refine va_sld hx hb hX hbl hbA hS (scr_in (j := 2) (by omega) hL) d_L_law_344 ?_
  rw [← es2]
  refine lv_aload_n hx hb d_L_law_345 rfl (lv_at hl 1 rfl) ?_
  refine lv_iload hx hb d_L_law_346 (lv_at hl 5 rfl) ?_
  refine lv_iconst (v := 3) hx hb d_L_law_348 (by decide) ?_
  refine lv_iadd hx hb d_L_law_349 ?_
  refine va_sld hx hb hX hbl hbA hS (scr_in (j := 3) (by omega) hL) d_L_law_350 ?_
  rw [← es3]
  refine lv_i2l hx hb d_L_law_351 rfl ?_
  refine lv_bipush (v := 32) hx hb d_L_law_352 (by decide) ?_
  refine lv_lshl hx hb d_L_law_354 rfl ?_
  refine lv_aload_n hx hb d_L_law_355 rfl (lv_at hl 1 rfl) ?_
  refine lv_iload hx hb d_L_law_356 (lv_at hl 5 rfl) ?_
  refine lv_iconst (v := 4) hx hb d_L_law_358 (by decide) ?_
  refine lv_iadd hx hb d_L_law_359 ?_
  refine va_sld hx hb hX hbl hbA hS (scr_in (j := 4) (by omega) hL) d_L_law_360 ?_
  rw [← es4]
  refine lv_i2l hx hb d_L_law_361 rfl ?_
  refine lv_ldc2 hx hb hown (hts _ kd_L_68) d_L_law_362 ?_
  refine lv_land hx hb d_L_law_365 ?_
  refine lv_lor hx hb d_L_law_366 ?_
  rw [← evv]
  refine lv_aload_n hx hb d_L_law_367 rfl (lv_at hl 1 rfl) ?_
  refine lv_iload hx hb d_L_law_368 (lv_at hl 5 rfl) ?_
  refine lv_iconst (v := 5) hx hb d_L_law_370 (by decide) ?_
  refine lv_iadd hx hb d_L_law_371 ?_
  refine va_sld hx hb hX hbl hbA hS (scr_in (j := 5) (by omega) hL) d_L_law_372 ?_
  rw [← es5]
  refine va_calli (va_runV (As := [.int s1, .int s2, .long vv, .int s5]) (rest := []) (C := RM) ⟨hx, hb, hml, hown, hts⟩ (m_M_store l D k b f r (nI d) N G t KR K T s1 s2 vv s5 _) (cwV 4 hts (TB_g kl_L_73 ki_M_store ks_M_store kz_M (TB_c kc_M_store)) rfl rfl rfl (by decide +kernel) ⟨Nat.le_of_ble_eq_true rfl, Nat.le_of_ble_eq_true rfl⟩) ⟨PW.bl, va_recv (q := (RM, TM, 9)) (ci := 2) (q0 := 0) hK (cutM_P hP) rfl rfl, fun U hU hW => ⟨rfl, PW.go hK (cutM_P hP) (cutM_D hD) hS hA hE hU hW⟩⟩ rfl rfl hl.1 rfl (lv_room (Nat.le_of_ble_eq_true rfl)) d_L_law_373 ⟨(show cells + 2 + 0 ≤ 601024 by omega), (show slots + 12 + 0 ≤ 7293034 by omega)⟩) hS (fun q _ h => cut_F (cutM_D hD) hS hA q h) (cut_F (cutM_D hD) hS hA) (fun x ww t2 H1 locs1 ht hvm hpost2 hB hz hk hS => ?_)
  rw [ht] at hB
  obtain ⟨hP, hD⟩ := cutM_J hP hD hk hB wm_ad
  generalize H1 = H at hP hS ⊢
  generalize locs1 = locs at hS ⊢
  obtain ⟨f2, r2, N2, t2⟩ := ww
  dsimp only at hpost2 hP hD
  rcases hpost with ⟨e0, hno, e1, e2, e3, e4⟩ | ⟨e0, g, h, hg, hh, e6, e7, hbad, e1, e2, e3, e4⟩ | ⟨e0, g, h, hg, hh, e6, e7, hb1, hb2, e1, e2, e3, e4, e5⟩
  · rcases hpost2 with ⟨-, g2⟩ | ⟨g1, h1, hg1, hh1, g2, g3, -⟩
    rotate_left
    · exact absurd ⟨g1, h1, hg1, hh1, g2, g3⟩ hno
    obtain ⟨rfl, rfl, rfl, rfl⟩ : 1 = f2 ∧ r = r2 ∧ N = N2 ∧ t = t2 := by injection g2 with i1 i2; injection i2 with i2 i3; injection i3 with i3 i4; exact ⟨i1.symm, i2.symm, i3.symm, i4.symm⟩
    have e1 := e1.symm
    have e2 := e2.symm
    have e3 := e3.symm
    have e4 := e4.symm
    subst e0 e1 e2 e3 e4
    refine lv_istore (lv' := [(6, .int x), (5, .int 1), (0, .ref b0), (1, .ref (a 0)), (2, .ref (b 0)), (3, .ref q0), (4, .int (nI n))]) hx hb d_L_law_376 hl (by decide) rfl (fun ls hl => ?_)
    refine lv_aload_n hx hb d_L_law_378 rfl (lv_at hl 4 rfl) ?_
    refine vp_callSi (va_runV (As := []) (rest := []) (C := RM) ⟨hx, hb, hml, hown, hts⟩ (m_M_thrown l D k b 1 r (nI d) N G t KR K T _) (cwV 0 hts (TB_g kl_L_57 ki_M_thrown ks_M_thrown kz_M (TB_c kc_M_thrown)) rfl rfl rfl (by decide +kernel) ⟨Nat.le_of_ble_eq_true rfl, Nat.le_of_ble_eq_true rfl⟩) ⟨PW.bl, va_recv (q := (RM, TM, 9)) (ci := 2) (q0 := 0) hK (cutM_P hP) rfl rfl, fun U hU hW => ⟨rfl, PW.go hK (cutM_P hP) (cutM_D hD) hS hA hE hU hW⟩⟩ rfl rfl hl.1 rfl (lv_room (Nat.le_of_ble_eq_true rfl)) d_L_law_379 ⟨(show cells + 2 + 0 + 0 ≤ 601024 by omega), (show slots + 12 + 0 + 0 ≤ 7293034 by omega)⟩).run (fun h1 hh1 => ?_)
    subst hh1
    refine lv_iload hx hb d_L_law_382 (lv_at hl 1 rfl) ?_
    refine lv_icmp_eq (tgt := 389) hx hb d_L_law_384 (by decide) (fun c_384 => ?_) (fun c_384 => ?_)
    · refine lv_iload hx hb d_L_law_389 (lv_at hl 1 rfl) ?_
      refine lv_if_ne (tgt := 406) hx hb d_L_law_391 (by decide) (fun c_391 => ?_) (fun c_391 => ?_)
      · refine lv_goto (tgt := 635) hx hb d_L_law_406 (by decide) ?_
        refine W.widen (k := cells + 2) (n := slots + 12) (by omega) (by omega) ?_
        exact kk d F V M R 1 r N G t KR K T O2 H locs ls hI hP hD hS (lv_sub hl [2, 3, 4, 5, 6] rfl)
      · exact absurd c_391 (by decide)
    · exact absurd rfl c_384
  · rcases hpost2 with ⟨hno2, -⟩ | ⟨g1, h1, hg1, hh1, g2, g3, g4⟩
    · exact absurd ⟨g, h, hg, hh, e6, e7⟩ hno2
    obtain rfl : g = g1 := nI_u (by omega) (by omega) (e6.symm.trans g2)
    obtain rfl : h = h1 := nI_u hh hh1 (e7.symm.trans g3)
    have hc1 : fWC (G (g * 64 + h)) (N (g * 64 + h)) vv + (if t (g * 64 + h) then 0 else 2100) = fWC (F (g * 64 + h)) (V d (g * 64 + h)) vv + (if tb (M d g) h then 0 else 2100) := by rw [hI.2.1 _ (by omega), hI.2.2.1 _ (by omega), hI.2.2.2.1 g h hg hh]
    rw [hc1] at g4
    rcases g4 with ⟨-, g5⟩ | ⟨k1, k2, -⟩
    rotate_left
    · exact absurd hbad (fun q => q.elim k1 (fun q => q k2))
    obtain ⟨rfl, rfl, rfl, rfl⟩ : 2 = f2 ∧ r = r2 ∧ N = N2 ∧ t = t2 := by injection g5 with i1 i2; injection i2 with i2 i3; injection i3 with i3 i4; exact ⟨i1.symm, i2.symm, i3.symm, i4.symm⟩
    have e1 := e1.symm
    have e2 := e2.symm
    have e3 := e3.symm
    have e4 := e4.symm
    subst e0 e1 e2 e3 e4
    refine lv_istore (lv' := [(6, .int x), (5, .int 2), (0, .ref b0), (1, .ref (a 0)), (2, .ref (b 0)), (3, .ref q0), (4, .int (nI n))]) hx hb d_L_law_376 hl (by decide) rfl (fun ls hl => ?_)
    refine lv_aload_n hx hb d_L_law_378 rfl (lv_at hl 4 rfl) ?_
    refine vp_callSi (va_runV (As := []) (rest := []) (C := RM) ⟨hx, hb, hml, hown, hts⟩ (m_M_thrown l D k b 2 r (nI d) N G t KR K T _) (cwV 0 hts (TB_g kl_L_57 ki_M_thrown ks_M_thrown kz_M (TB_c kc_M_thrown)) rfl rfl rfl (by decide +kernel) ⟨Nat.le_of_ble_eq_true rfl, Nat.le_of_ble_eq_true rfl⟩) ⟨PW.bl, va_recv (q := (RM, TM, 9)) (ci := 2) (q0 := 0) hK (cutM_P hP) rfl rfl, fun U hU hW => ⟨rfl, PW.go hK (cutM_P hP) (cutM_D hD) hS hA hE hU hW⟩⟩ rfl rfl hl.1 rfl (lv_room (Nat.le_of_ble_eq_true rfl)) d_L_law_379 ⟨(show cells + 2 + 0 + 0 ≤ 601024 by omega), (show slots + 12 + 0 + 0 ≤ 7293034 by omega)⟩).run (fun h1 hh1 => ?_)
    subst hh1
    refine lv_iload hx hb d_L_law_382 (lv_at hl 1 rfl) ?_
    refine lv_icmp_eq (tgt := 389) hx hb d_L_law_384 (by decide) (fun c_384 => ?_) (fun c_384 => ?_)
    · refine lv_iload hx hb d_L_law_389 (lv_at hl 1 rfl) ?_
      refine lv_if_ne (tgt := 406) hx hb d_L_law_391 (by decide) (fun c_391 => ?_) (fun c_391 => ?_)
      · refine lv_goto (tgt := 635) hx hb d_L_law_406 (by decide) ?_
        refine W.widen (k := cells + 2) (n := slots + 12) (by omega) (by omega) ?_
        exact kk d F V M R 2 r N G t KR K T O2 H locs ls hI hP hD hS (lv_sub hl [2, 3, 4, 5, 6] rfl)
      · exact absurd c_391 (by decide)
    · exact absurd rfl c_384
  · rcases hpost2 with ⟨hno2, -⟩ | ⟨g1, h1, hg1, hh1, g2, g3, g4⟩
    · exact absurd ⟨g, h, hg, hh, e6, e7⟩ hno2
    obtain rfl : g = g1 := nI_u (by omega) (by omega) (e6.symm.trans g2)
    obtain rfl : h = h1 := nI_u hh hh1 (e7.symm.trans g3)
    have hc1 : fWC (G (g * 64 + h)) (N (g * 64 + h)) vv + (if t (g * 64 + h) then 0 else 2100) = fWC (F (g * 64 + h)) (V d (g * 64 + h)) vv + (if tb (M d g) h then 0 else 2100) := by rw [hI.2.1 _ (by omega), hI.2.2.1 _ (by omega), hI.2.2.2.1 g h hg hh]
    rw [hc1] at g4
    rcases g4 with ⟨k1, -⟩ | ⟨-, -, g5, g6⟩
    · exact absurd k1 (fun q => q.elim hb1 (fun q => q hb2))
    obtain ⟨rfl, k2, k3, k4⟩ : 0 = f2 ∧ r2 = r + fRC (G (g * 64 + h)) (N (g * 64 + h)) vv ∧ N2 = vp_updL N (g * 64 + h) vv ∧ t2 = va_up t (g * 64 + h) true := by injection g6 with i1 i2; injection i2 with i2 i3; injection i3 with i3 i4; exact ⟨i1.symm, i2, i3, i4⟩
    rw [hI.2.1 _ (by omega), hI.2.2.1 _ (by omega)] at k2
    have e1 := e1.symm
    subst e0 e1 e2 e3 e4 k2 k3 k4
    refine lv_istore (lv' := [(6, .int x), (5, .int 0), (0, .ref b0), (1, .ref (a 0)), (2, .ref (b 0)), (3, .ref q0), (4, .int (nI n))]) hx hb d_L_law_376 hl (by decide) rfl (fun ls hl => ?_)
    refine lv_aload_n hx hb d_L_law_378 rfl (lv_at hl 4 rfl) ?_
    refine vp_callSi (va_runV (As := []) (rest := []) (C := RM) ⟨hx, hb, hml, hown, hts⟩ (m_M_thrown l D k b 0 (r + fRC (F (g * 64 + h)) (V d (g * 64 + h)) vv) (nI d) (vp_updL N (g * 64 + h) vv) G (va_up t (g * 64 + h) true) KR K T _) (cwV 0 hts (TB_g kl_L_57 ki_M_thrown ks_M_thrown kz_M (TB_c kc_M_thrown)) rfl rfl rfl (by decide +kernel) ⟨Nat.le_of_ble_eq_true rfl, Nat.le_of_ble_eq_true rfl⟩) ⟨PW.bl, va_recv (q := (RM, TM, 9)) (ci := 2) (q0 := 0) hK (cutM_P hP) rfl rfl, fun U hU hW => ⟨rfl, PW.go hK (cutM_P hP) (cutM_D hD) hS hA hE hU hW⟩⟩ rfl rfl hl.1 rfl (lv_room (Nat.le_of_ble_eq_true rfl)) d_L_law_379 ⟨(show cells + 2 + 0 + 0 ≤ 601024 by omega), (show slots + 12 + 0 + 0 ≤ 7293034 by omega)⟩).run (fun h1 hh1 => ?_)
    subst hh1
    refine lv_iload hx hb d_L_law_382 (lv_at hl 1 rfl) ?_
    refine lv_icmp_eq (tgt := 389) hx hb d_L_law_384 (by decide) (fun c_384 => ?_) (fun c_384 => ?_)
    · refine lv_iload hx hb d_L_law_389 (lv_at hl 1 rfl) ?_
      refine lv_if_ne (tgt := 406) hx hb d_L_law_391 (by decide) (fun c_391 => ?_) (fun c_391 => ?_)
      · exact absurd rfl c_391
      · refine lv_aload_n hx hb d_L_law_394 rfl (lv_at hl 5 rfl) ?_
        refine lv_iconst (v := 0) hx hb d_L_law_395 (by decide) ?_
        refine va_lald hx hb hK hP 0 0 rfl rfl (show vp_in (nI 0) 1 from vp_in_nI (by decide) (by decide)) d_L_law_396 ?_
        have er : O2 (0 : Int32).toNatClampNeg = ((x) : Int32).toInt64 := by rw [g5]; exact e5
        refine lv_iload hx hb d_L_law_397 (lv_at hl 0 rfl) ?_
        refine lv_i2l hx hb d_L_law_399 rfl ?_
        refine W.lcmp hx hb d_L_law_400 ?_
        refine lv_if_eq (tgt := 406) hx hb d_L_law_401 (by decide) (fun c_401 => ?_) (fun c_401 => ?_)
        · have c_401 : O2 (0 : Int32).toNatClampNeg = ((x) : Int32).toInt64 := (lg_cmp_eq _ _).mp c_401
          refine lv_goto (tgt := 635) hx hb d_L_law_406 (by decide) ?_
          refine W.widen (k := cells + 2) (n := slots + 12) (by omega) (by omega) ?_
          exact kk d F (va_up V d (vp_updL (V d) (g * 64 + h) vv)) (va_up M d (vp_updL (M d) g (tbs (M d g) h))) (va_up R d (R d + fRC (F (g * 64 + h)) (V d (g * 64 + h)) vv)) 0 (r + fRC (F (g * 64 + h)) (V d (g * 64 + h)) vv) (vp_updL N (g * 64 + h) vv) G (va_up t (g * 64 + h) true) KR K T O2 H locs ls (ri_store hI hg hh vv (fRC (F (g * 64 + h)) (V d (g * 64 + h)) vv)) hP hD hS (lv_sub hl [2, 3, 4, 5, 6] rfl)
        · have c_401 : ¬ O2 (0 : Int32).toNatClampNeg = ((x) : Int32).toInt64 := fun q => c_401 ((lg_cmp_eq _ _).mpr q)
          exact absurd er c_401
    · exact absurd rfl c_384
