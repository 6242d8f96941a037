/-! the law's helpers: a call of the class, its answer or what it threw -/
abbrev rH1 : Room := { frames := 9, cells := 1, slots := 6, locals := 170 }
abbrev rH2 : Room := { frames := 9, cells := 2, slots := 12, locals := 170 }

set_option maxHeartbeats 4000000 in
set_option maxRecDepth 100000 in
theorem m_L_open (l : Launch) (hl0 : l.stackTraces = false) (D : va_G) (k : Nat → ClassId) (a : Nat → Nat) (d : Nat) (hd : d ≤ 30) (F : Nat → Int64) (V M : Nat → Nat → Int64) (R : Nat → Int32) (q0 : Nat) (O : Nat → Int64) (bw : va_W) (sz : Nat) : Met l y_L_open (w_L_open :: TB) rH1 (va_Pc [.ref (a 0), .ref q0] (PW D k ([(q0, .inl (k 0, 1, .inr (.inl O)))] ++ (WX k a (nI d) F V M R ++ bw)) sz)) (va_Qi (fun (y : Int32) (u : Nat × (Nat → Nat → Int64) × (Nat → Nat → Int64) × (Nat → Int32) × (Nat → Int64)) => (y = 1 ∧ ¬ d < 30 ∧ u.1 = d ∧ u.2.1 = V ∧ u.2.2.1 = M ∧ u.2.2.2.1 = R) ∨ (y = 0 ∧ d < 30 ∧ u.1 = d + 1 ∧ u.2.1 = va_up V (d + 1) (va_cpy (V d) (V (d + 1)) 0 0 256) ∧ u.2.2.1 = va_up M (d + 1) (va_cpy (M d) (M (d + 1)) 0 0 4) ∧ u.2.2.2.1 = va_up R (d + 1) (R d) ∧ u.2.2.2.2 0 = (nI (d + 1)).toInt64)) (fun u t => va_P D wCl ([(q0, .inl (k 0, 1, .inr (.inl u.2.2.2.2)))] ++ (WX k a (nI u.1) F u.2.1 u.2.2.1 u.2.2.2.1 ++ bw)) t.heap) (va_A ([(q0, .inl (k 0, 1, .inr (.inl O)))] ++ (WX k a (nI d) F V M R ++ bw)) sz)) 1 6 (va_A ([(q0, .inl (k 0, 1, .inr (.inl O)))] ++ (WX k a (nI d) F V M R ++ bw)) sz) := by
  refine va_MetW (cc := b_L_open) (maxL := 3) (ret := some .int) (by decide) rfl ?_
  intro p e s m args below meth c s₁ B hml hv
  obtain ⟨rfl, hsz, hP, hK, hD0, hE⟩ := hv
  have hx := B.exec
  have htab := vx_table (x := y_L_open) B (atoms_spec (ws := w_L_open :: TB) B.pre _ List.mem_cons_self)
  have hb := B.bytes
  have hr := B.returns
  have hts0 := atoms_spec (ws := w_L_open :: TB) B.pre
  have hts := fun w (hw : w ∈ TB) => hts0 w (List.mem_cons_of_mem _ hw)
  have hown : s.vm.findClass RL = some m.cls := findClass_of_methodNamed B.named
  have hlocks := B.notSynchronized
  subst hsz
  have hD := hD0.self (sz := s.heap.size)
  generalize hAe : va_A ([(q0, .inl (k 0, 1, .inr (.inl O)))] ++ (WX k a (nI d) F V M R ++ bw)) s.heap.size = A at *
  have hA : ∀ q : Nat, s.heap.size ≤ q → A q := fun q h => by rw [← hAe]; exact Or.inr h
  have hS : va_S A s.heap s.heap [] := va_S.rf
  have hl := lv_entry ([.ref (a 0), .ref q0]) (n := 3) (Nat.le_of_ble_eq_true rfl)
  rw [lg_entry_eq]
  generalize (lg_sl ([.ref (a 0), .ref q0]) ++ List.replicate (3 - (lg_sl ([.ref (a 0), .ref q0])).length) Slot.unset).toArray = ls at hl ⊢
  have hl : lv_has ls 3 [(0, .ref (a 0)), (1, .ref q0)] := hl
  refine lv_aload_n hx hb d_L_open_0 rfl (lv_at hl 1 rfl) ?_
  refine lv_iconst (v := 0) hx hb d_L_open_1 (by decide) ?_
  refine lv_aload_n hx hb d_L_open_2 rfl (lv_at hl 0 rfl) ?_
  refine vx_calli (vx_runV (As := []) (rest := [.int 0, .ref q0]) (C := RX) ⟨hx, hb, hml, hown, hts⟩ (m_X_open l hl0 D k a d hd F V M R _) (cwV 0 hts (TB_g kl_L_7 ki_X_open ks_X_open kz_X (TB_c kc_X_open)) rfl rfl rfl (by decide +kernel) ⟨Nat.le_of_ble_eq_true rfl, Nat.le_of_ble_eq_true rfl⟩) ⟨PW.bl, va_recv (q := (RX, TX, 3)) (ci := 1) (q0 := 1) hK hP rfl rfl, fun U hU hW => ⟨rfl, PW.go hK (cut_P hP) (cut_D hD) hS hA hE hU hW⟩⟩ rfl rfl hl.1 rfl (lv_room (Nat.le_of_ble_eq_true rfl)) d_L_open_3 ⟨Nat.le_of_ble_eq_true rfl, Nat.le_of_ble_eq_true rfl⟩) hS (fun q _ h => cut_F (cut_D hD) hS hA q h) (cut_F (cut_D hD) hS hA) (fun q _ h => cut_F (cut_D hD) hS hA q h) (fun E ce q9 u t H1 locs1 ht hvm px hBX hz hk hS hcell hv9 hcl => ?_) (fun r1 uu t H1 locs1 ht hvm hpost hB hz hk hS => ?_)
  · obtain ⟨rfl, hB⟩ := hBX
    rw [ht] at hB
    obtain ⟨hP, hD⟩ := cut_J hP hD hk hB rfl
    refine ct_catch hown [] ⟨0, 8, 11, 13⟩ [] (htab.trans rfl) (fun z h => absurd h List.not_mem_nil) (by decide) (by decide) (hts _ kk_L_13) (va_Nw.use rfl (hE.1 _ nv_IndexOutOfBoundsException)) hcell hv9 hcl ?_
    refine lv_astore_n (lv' := [(2, .ref q9), (0, .ref (a 0)), (1, .ref q0)]) hx hb d_L_open_11 rfl hl (by decide) rfl (fun ls hl => ?_)
    refine lv_iconst (v := 1) hx hb d_L_open_12 (by decide) ?_
    exact W.iret (v := 1) hx hb hr (fun t ht hW => ⟨⟨_, (d, V, M, R, O), rfl, Or.inl ⟨rfl, px, rfl, rfl, rfl, rfl⟩, atP hP ht⟩, hS.F ht⟩) hS.2.2 d_L_open_13
  · rw [ht] at hB
    obtain ⟨V2, M2, R2⟩ := uu
    obtain ⟨hd30, e0, e1, e2, e3⟩ := hpost
    dsimp only at e1 e2 e3 hB
    subst e0 e1 e2 e3
    obtain ⟨hP, hD⟩ := cut_J hP hD hk hB wx_ad
    refine lv_i2l hx hb d_L_open_6 rfl ?_
    refine va_last hx hb hK hP hD hS 0 0 rfl rfl (show vp_in (nI 0) 1 from vp_in_nI (by decide) (by decide)) d_L_open_7 (fun H locs hP hD hS => ?_)
    refine lv_goto (tgt := 14) hx hb d_L_open_8 (by decide) ?_
    refine lv_iconst (v := 0) hx hb d_L_open_14 (by decide) ?_
    exact W.iret (v := 0) hx hb hr (fun t ht hW => ⟨⟨_, (d + 1, va_up V (d + 1) (va_cpy (V d) (V (d + 1)) 0 0 256), va_up M (d + 1) (va_cpy (M d) (M (d + 1)) 0 0 4), va_up R (d + 1) (R d), vp_updL O 0 ((nI (d + 1)).toInt64)), rfl, Or.inr ⟨rfl, hd30, rfl, rfl, rfl, rfl, rfl⟩, atP hP ht⟩, hS.F ht⟩) hS.2.2 d_L_open_15
set_option maxHeartbeats 4000000 in
set_option maxRecDepth 100000 in
theorem m_L_close (l : Launch) (hl0 : l.stackTraces = false) (D : va_G) (k : Nat → ClassId) (a : Nat → Nat) (d : Nat) (hd : d ≤ 30) (F : Nat → Int64) (V M : Nat → Nat → Int64) (R : Nat → Int32) (q0 : Nat) (O : Nat → Int64) (bw : va_W) (z : Int32) (sz : Nat) : Met l y_L_close (w_L_close :: TB) rH1 (va_Pc [.ref (a 0), .int z, .ref q0] (PW D k ([(q0, .inl (k 0, 1, .inr (.inl O)))] ++ (WX k a (nI d) F V M R ++ bw)) sz)) (va_Qi (fun (y : Int32) (u : Nat × (Nat → Nat → Int64) × (Nat → Nat → Int64) × (Nat → Int32) × (Nat → Int64)) => (y = 1 ∧ d = 0 ∧ u.1 = d ∧ u.2.1 = V ∧ u.2.2.1 = M ∧ u.2.2.2.1 = R) ∨ (y = 0 ∧ d = u.1 + 1 ∧ True ∧ (z = 0 → (u.2.1, u.2.2.1, u.2.2.2.1) = (V, M, R)) ∧ (¬ z = 0 → (u.2.1, u.2.2.1, u.2.2.2.1) = (va_up V u.1 (va_cpy (V (u.1 + 1)) (V u.1) 0 0 256), va_up M u.1 (va_cpy (M (u.1 + 1)) (M u.1) 0 0 4), va_up R u.1 (R (u.1 + 1)))) ∧ u.2.2.2.2 0 = (nI u.1).toInt64)) (fun u t => va_P D wCl ([(q0, .inl (k 0, 1, .inr (.inl u.2.2.2.2)))] ++ (WX k a (nI u.1) F u.2.1 u.2.2.1 u.2.2.2.1 ++ bw)) t.heap) (va_A ([(q0, .inl (k 0, 1, .inr (.inl O)))] ++ (WX k a (nI d) F V M R ++ bw)) sz)) 1 6 (va_A ([(q0, .inl (k 0, 1, .inr (.inl O)))] ++ (WX k a (nI d) F V M R ++ bw)) sz) := by
  refine va_MetW (cc := b_L_close) (maxL := 4) (ret := some .int) (by decide) rfl ?_
  intro p e s m args below meth c s₁ B hml hv
  obtain ⟨rfl, hsz, hP, hK, hD0, hE⟩ := hv
  have hx := B.exec
  have htab := vx_table (x := y_L_open) B (atoms_spec (ws := w_L_close :: TB) B.pre _ List.mem_cons_self)
  have hb := B.bytes
  have hr := B.returns
  have hts0 := atoms_spec (ws := w_L_close :: TB) B.pre
  have hts := fun w (hw : w ∈ TB) => hts0 w (List.mem_cons_of_mem _ hw)
  have hown : s.vm.findClass RL = some m.cls := findClass_of_methodNamed B.named
  have hlocks := B.notSynchronized
  subst hsz
  have hD := hD0.self (sz := s.heap.size)
  generalize hAe : va_A ([(q0, .inl (k 0, 1, .inr (.inl O)))] ++ (WX k a (nI d) F V M R ++ bw)) s.heap.size = A at *
  have hA : ∀ q : Nat, s.heap.size ≤ q → A q := fun q h => by rw [← hAe]; exact Or.inr h
  have hS : va_S A s.heap s.heap [] := va_S.rf
  have hl := lv_entry ([.ref (a 0), .int z, .ref q0]) (n := 4) (Nat.le_of_ble_eq_true rfl)
  rw [lg_entry_eq]
  generalize (lg_sl ([.ref (a 0), .int z, .ref q0]) ++ List.replicate (4 - (lg_sl ([.ref (a 0), .int z, .ref q0])).length) Slot.unset).toArray = ls at hl ⊢
  have hl : lv_has ls 4 [(0, .ref (a 0)), (1, .int z), (2, .ref q0)] := hl
  refine lv_aload_n hx hb d_L_close_0 rfl (lv_at hl 2 rfl) ?_
  refine lv_iconst (v := 0) hx hb d_L_close_1 (by decide) ?_
  refine lv_aload_n hx hb d_L_close_2 rfl (lv_at hl 0 rfl) ?_
  refine lv_iload_n hx hb d_L_close_3 rfl (lv_at hl 1 rfl) ?_
  refine vx_calli (vx_runV (As := [.int z]) (rest := [.int 0, .ref q0]) (C := RX) ⟨hx, hb, hml, hown, hts⟩ (m_X_close l hl0 D k a d hd F V M R z _) (cwV 1 hts (TB_g kl_L_15 ki_X_close ks_X_close kz_X (TB_c kc_X_close)) rfl rfl rfl (by decide +kernel) ⟨Nat.le_of_ble_eq_true rfl, Nat.le_of_ble_eq_true rfl⟩) ⟨PW.bl, va_recv (q := (RX, TX, 3)) (ci := 1) (q0 := 1) hK hP rfl rfl, fun U hU hW => ⟨rfl, PW.go hK (cut_P hP) (cut_D hD) hS hA hE hU hW⟩⟩ rfl rfl hl.1 rfl (lv_room (Nat.le_of_ble_eq_true rfl)) d_L_close_4 ⟨Nat.le_of_ble_eq_true rfl, Nat.le_of_ble_eq_true rfl⟩) hS (fun q _ h => cut_F (cut_D hD) hS hA q h) (cut_F (cut_D hD) hS hA) (fun q _ h => cut_F (cut_D hD) hS hA q h) (fun E ce q9 u t H1 locs1 ht hvm px hBX hz hk hS hcell hv9 hcl => ?_) (fun r1 uu t H1 locs1 ht hvm hpost hB hz hk hS => ?_)
  · obtain ⟨rfl, hB⟩ := hBX
    rw [ht] at hB
    obtain ⟨hP, hD⟩ := cut_J hP hD hk hB rfl
    refine ct_catch hown [] ⟨0, 9, 12, 19⟩ [] (htab.trans rfl) (fun z h => absurd h List.not_mem_nil) (by decide) (by decide) (hts _ kk_L_19) (va_Nw.use rfl (hE.1 _ nv_IllegalStateException)) hcell hv9 hcl ?_
    refine lv_astore_n (lv' := [(3, .ref q9), (0, .ref (a 0)), (1, .int z), (2, .ref q0)]) hx hb d_L_close_12 rfl hl (by decide) rfl (fun ls hl => ?_)
    refine lv_iconst (v := 1) hx hb d_L_close_13 (by decide) ?_
    exact W.iret (v := 1) hx hb hr (fun t ht hW => ⟨⟨_, (d, V, M, R, O), rfl, Or.inl ⟨rfl, px, rfl, rfl, rfl, rfl⟩, atP hP ht⟩, hS.F ht⟩) hS.2.2 d_L_close_14
  · rw [ht] at hB
    obtain ⟨f9, V2, M2, R2⟩ := uu
    obtain ⟨e1, e2, e3, e4⟩ := hpost
    dsimp only at e1 e2 e3 e4 hB
    subst e1 e2
    obtain ⟨hP, hD⟩ := cut_J hP hD hk hB wx_ad
    refine lv_i2l hx hb d_L_close_7 rfl ?_
    refine va_last hx hb hK hP hD hS 0 0 rfl rfl (show vp_in (nI 0) 1 from vp_in_nI (by decide) (by decide)) d_L_close_8 (fun H locs hP hD hS => ?_)
    refine lv_goto (tgt := 15) hx hb d_L_close_9 (by decide) ?_
    refine lv_iconst (v := 0) hx hb d_L_close_15 (by decide) ?_
    exact W.iret (v := 0) hx hb hr (fun t ht hW => ⟨⟨_, (f9, V2, M2, R2, vp_updL O 0 ((nI f9).toInt64)), rfl, Or.inr ⟨rfl, rfl, trivial, e3, e4, rfl⟩, atP hP ht⟩, hS.F ht⟩) hS.2.2 d_L_close_16
set_option maxHeartbeats 4000000 in
set_option maxRecDepth 100000 in
theorem m_L_load (l : Launch) (hl0 : l.stackTraces = false) (D : va_G) (k : Nat → ClassId) (a : Nat → Nat) (d : Nat) (hd : d ≤ 30) (F : Nat → Int64) (V M : Nat → Nat → Int64) (R : Nat → Int32) (q0 : Nat) (O : Nat → Int64) (bw : va_W) (o1 p1 : Int32) (sz : Nat) : Met l y_L_load (w_L_load :: TB) rH1 (va_Pc [.ref (a 0), .int o1, .int p1, .ref q0] (PW D k ([(q0, .inl (k 0, 1, .inr (.inl O)))] ++ (WX k a (nI d) F V M R ++ bw)) sz)) (va_Qi (fun (y : Int32) (u : Nat × (Nat → Nat → Int64) × (Nat → Nat → Int64) × (Nat → Int32) × (Nat → Int64)) => (y = 1 ∧ ¬ okP o1 p1 ∧ u.1 = d ∧ u.2.1 = V ∧ u.2.2.1 = M ∧ u.2.2.2.1 = R) ∨ (y = 0 ∧ ∃ g h : Nat, g < 4 ∧ h < 64 ∧ o1 = nI g ∧ p1 = nI h ∧ u.1 = d ∧ u.2.1 = V ∧ u.2.2.1 = va_up M d (vp_updL (M d) g (tbs (M d g) h)) ∧ u.2.2.2.1 = R ∧ u.2.2.2.2 0 = ((if tb (M d g) h then 100 else 2100) : Int32).toInt64)) (fun u t => va_P D wCl ([(q0, .inl (k 0, 1, .inr (.inl u.2.2.2.2)))] ++ (WX k a (nI u.1) F u.2.1 u.2.2.1 u.2.2.2.1 ++ bw)) t.heap) (va_A ([(q0, .inl (k 0, 1, .inr (.inl O)))] ++ (WX k a (nI d) F V M R ++ bw)) sz)) 1 6 (va_A ([(q0, .inl (k 0, 1, .inr (.inl O)))] ++ (WX k a (nI d) F V M R ++ bw)) sz) := by
  refine va_MetW (cc := b_L_load) (maxL := 5) (ret := some .int) (by decide) rfl ?_
  intro p e s m args below meth c s₁ B hml hv
  obtain ⟨rfl, hsz, hP, hK, hD0, hE⟩ := hv
  have hx := B.exec
  have htab := vx_table (x := y_L_open) B (atoms_spec (ws := w_L_load :: TB) B.pre _ List.mem_cons_self)
  have hb := B.bytes
  have hr := B.returns
  have hts0 := atoms_spec (ws := w_L_load :: TB) B.pre
  have hts := fun w (hw : w ∈ TB) => hts0 w (List.mem_cons_of_mem _ hw)
  have hown : s.vm.findClass RL = some m.cls := findClass_of_methodNamed B.named
  have hlocks := B.notSynchronized
  subst hsz
  have hD := hD0.self (sz := s.heap.size)
  generalize hAe : va_A ([(q0, .inl (k 0, 1, .inr (.inl O)))] ++ (WX k a (nI d) F V M R ++ bw)) s.heap.size = A at *
  have hA : ∀ q : Nat, s.heap.size ≤ q → A q := fun q h => by rw [← hAe]; exact Or.inr h
  have hS : va_S A s.heap s.heap [] := va_S.rf
  have hl := lv_entry ([.ref (a 0), .int o1, .int p1, .ref q0]) (n := 5) (Nat.le_of_ble_eq_true rfl)
  rw [lg_entry_eq]
  generalize (lg_sl ([.ref (a 0), .int o1, .int p1, .ref q0]) ++ List.replicate (5 - (lg_sl ([.ref (a 0), .int o1, .int p1, .ref q0])).length) Slot.unset).toArray = ls at hl ⊢
  have hl : lv_has ls 5 [(0, .ref (a 0)), (1, .int o1), (2, .int p1), (3, .ref q0)] := hl
  refine lv_aload_n hx hb d_L_load_0 rfl (lv_at hl 3 rfl) ?_
  refine lv_iconst (v := 0) hx hb d_L_load_1 (by decide) ?_
  refine lv_aload_n hx hb d_L_load_2 rfl (lv_at hl 0 rfl) ?_
  refine lv_iload_n hx hb d_L_load_3 rfl (lv_at hl 1 rfl) ?_
  refine lv_iload_n hx hb d_L_load_4 rfl (lv_at hl 2 rfl) ?_
  refine vx_calli (vx_runV (As := [.int o1, .int p1]) (rest := [.int 0, .ref q0]) (C := RX) ⟨hx, hb, hml, hown, hts⟩ (m_X_load l hl0 D k a d hd F V M R o1 p1 _) (cwV 2 hts (TB_g kl_L_21 ki_X_load ks_X_load kz_X (TB_c kc_X_load)) rfl rfl rfl (by decide +kernel) ⟨Nat.le_of_ble_eq_true rfl, Nat.le_of_ble_eq_true rfl⟩) ⟨PW.bl, va_recv (q := (RX, TX, 3)) (ci := 1) (q0 := 1) hK hP rfl rfl, fun U hU hW => ⟨rfl, PW.go hK (cut_P hP) (cut_D hD) hS hA hE hU hW⟩⟩ rfl rfl hl.1 rfl (lv_room (Nat.le_of_ble_eq_true rfl)) d_L_load_5 ⟨Nat.le_of_ble_eq_true rfl, Nat.le_of_ble_eq_true rfl⟩) hS (fun q _ h => cut_F (cut_D hD) hS hA q h) (cut_F (cut_D hD) hS hA) (fun q _ h => cut_F (cut_D hD) hS hA q h) (fun E ce q9 u t H1 locs1 ht hvm px hBX hz hk hS hcell hv9 hcl => ?_) (fun r1 uu t H1 locs1 ht hvm hpost hB hz hk hS => ?_)
  · obtain ⟨rfl, hB⟩ := hBX
    rw [ht] at hB
    obtain ⟨hP, hD⟩ := cut_J hP hD hk hB rfl
    refine ct_catch hown [] ⟨0, 10, 13, 25⟩ [] (htab.trans rfl) (fun z h => absurd h List.not_mem_nil) (by decide) (by decide) (hts _ kk_L_25) (va_Nw.use rfl (hE.1 _ nv_IllegalArgumentException)) hcell hv9 hcl ?_
    refine lv_astore (lv' := [(4, .ref q9), (0, .ref (a 0)), (1, .int o1), (2, .int p1), (3, .ref q0)]) hx hb d_L_load_13 hl (by decide) rfl (fun ls hl => ?_)
    refine lv_iconst (v := 1) hx hb d_L_load_15 (by decide) ?_
    exact W.iret (v := 1) hx hb hr (fun t ht hW => ⟨⟨_, (d, V, M, R, O), rfl, Or.inl ⟨rfl, px, rfl, rfl, rfl, rfl⟩, atP hP ht⟩, hS.F ht⟩) hS.2.2 d_L_load_16
  · rw [ht] at hB
    obtain ⟨g, h, hg, hh, e1, e2, e3, e4⟩ := hpost
    subst e4
    obtain ⟨hP, hD⟩ := cut_J hP hD hk hB wx_ad
    refine lv_i2l hx hb d_L_load_8 rfl ?_
    refine va_last hx hb hK hP hD hS 0 0 rfl rfl (show vp_in (nI 0) 1 from vp_in_nI (by decide) (by decide)) d_L_load_9 (fun H locs hP hD hS => ?_)
    refine lv_goto (tgt := 17) hx hb d_L_load_10 (by decide) ?_
    refine lv_iconst (v := 0) hx hb d_L_load_17 (by decide) ?_
    exact W.iret (v := 0) hx hb hr (fun t ht hW => ⟨⟨_, (d, V, va_up M d (vp_updL (M d) g (tbs (M d g) h)), R, vp_updL O 0 (((r1) : Int32).toInt64)), rfl, Or.inr ⟨rfl, g, h, hg, hh, e1, e2, rfl, rfl, rfl, rfl, by rw [e3]; exact rfl⟩, atP hP ht⟩, hS.F ht⟩) hS.2.2 d_L_load_18
set_option maxHeartbeats 4000000 in
set_option maxRecDepth 100000 in
theorem m_L_held (l : Launch) (hl0 : l.stackTraces = false) (D : va_G) (k : Nat → ClassId) (a : Nat → Nat) (d : Nat) (hd : d ≤ 30) (F : Nat → Int64) (V M : Nat → Nat → Int64) (R : Nat → Int32) (q0 : Nat) (O : Nat → Int64) (bw : va_W) (o1 p1 z : Int32) (sz : Nat) : Met l y_L_held (w_L_held :: TB) rH1 (va_Pc [.ref (a 0), .int o1, .int p1, .int z, .ref q0] (PW D k ([(q0, .inl (k 0, 1, .inr (.inl O)))] ++ (WX k a (nI d) F V M R ++ bw)) sz)) (va_Qi (fun (y : Int32) (u : Nat × (Nat → Nat → Int64) × (Nat → Nat → Int64) × (Nat → Int32) × (Nat → Int64)) => (y = 1 ∧ ¬ okP o1 p1 ∧ u.1 = d ∧ u.2.1 = V ∧ u.2.2.1 = M ∧ u.2.2.2.1 = R) ∨ (y = 0 ∧ ∃ g h : Nat, g < 4 ∧ h < 64 ∧ o1 = nI g ∧ p1 = nI h ∧ u.1 = d ∧ u.2.1 = V ∧ u.2.2.1 = M ∧ u.2.2.2.1 = R ∧ u.2.2.2.2 0 = (if z = 0 then V d (g * 64 + h) else F (g * 64 + h)))) (fun u t => va_P D wCl ([(q0, .inl (k 0, 1, .inr (.inl u.2.2.2.2)))] ++ (WX k a (nI u.1) F u.2.1 u.2.2.1 u.2.2.2.1 ++ bw)) t.heap) (va_A ([(q0, .inl (k 0, 1, .inr (.inl O)))] ++ (WX k a (nI d) F V M R ++ bw)) sz)) 1 6 (va_A ([(q0, .inl (k 0, 1, .inr (.inl O)))] ++ (WX k a (nI d) F V M R ++ bw)) sz) := by
  refine va_MetW (cc := b_L_held) (maxL := 6) (ret := some .int) (by decide) rfl ?_
  intro p e s m args below meth c s₁ B hml hv
  obtain ⟨rfl, hsz, hP, hK, hD0, hE⟩ := hv
  have hx := B.exec
  have htab := vx_table (x := y_L_open) B (atoms_spec (ws := w_L_held :: TB) B.pre _ List.mem_cons_self)
  have hb := B.bytes
  have hr := B.returns
  have hts0 := atoms_spec (ws := w_L_held :: TB) B.pre
  have hts := fun w (hw : w ∈ TB) => hts0 w (List.mem_cons_of_mem _ hw)
  have hown : s.vm.findClass RL = some m.cls := findClass_of_methodNamed B.named
  have hlocks := B.notSynchronized
  subst hsz
  have hD := hD0.self (sz := s.heap.size)
  generalize hAe : va_A ([(q0, .inl (k 0, 1, .inr (.inl O)))] ++ (WX k a (nI d) F V M R ++ bw)) s.heap.size = A at *
  have hA : ∀ q : Nat, s.heap.size ≤ q → A q := fun q h => by rw [← hAe]; exact Or.inr h
  have hS : va_S A s.heap s.heap [] := va_S.rf
  have hl := lv_entry ([.ref (a 0), .int o1, .int p1, .int z, .ref q0]) (n := 6) (Nat.le_of_ble_eq_true rfl)
  rw [lg_entry_eq]
  generalize (lg_sl ([.ref (a 0), .int o1, .int p1, .int z, .ref q0]) ++ List.replicate (6 - (lg_sl ([.ref (a 0), .int o1, .int p1, .int z, .ref q0])).length) Slot.unset).toArray = ls at hl ⊢
  have hl : lv_has ls 6 [(0, .ref (a 0)), (1, .int o1), (2, .int p1), (3, .int z), (4, .ref q0)] := hl
  refine lv_aload hx hb d_L_held_0 (lv_at hl 4 rfl) ?_
  refine lv_iconst (v := 0) hx hb d_L_held_2 (by decide) ?_
  refine lv_aload_n hx hb d_L_held_3 rfl (lv_at hl 0 rfl) ?_
  refine lv_iload_n hx hb d_L_held_4 rfl (lv_at hl 1 rfl) ?_
  refine lv_iload_n hx hb d_L_held_5 rfl (lv_at hl 2 rfl) ?_
  refine lv_iload_n hx hb d_L_held_6 rfl (lv_at hl 3 rfl) ?_
  refine vx_calll (vx_runV (As := [.int o1, .int p1, .int z]) (rest := [.int 0, .ref q0]) (C := RX) ⟨hx, hb, hml, hown, hts⟩ (m_X_held l hl0 D k a d hd F V M R o1 p1 z _) (cwV 3 hts (TB_g kl_L_31 ki_X_held ks_X_held kz_X (TB_c kc_X_held)) rfl rfl rfl (by decide +kernel) ⟨Nat.le_of_ble_eq_true rfl, Nat.le_of_ble_eq_true rfl⟩) ⟨PW.bl, va_recv (q := (RX, TX, 3)) (ci := 1) (q0 := 1) hK hP rfl rfl, fun U hU hW => ⟨rfl, PW.go hK (cut_P hP) (cut_D hD) hS hA hE hU hW⟩⟩ rfl rfl hl.1 rfl (lv_room (Nat.le_of_ble_eq_true rfl)) d_L_held_7 ⟨Nat.le_of_ble_eq_true rfl, Nat.le_of_ble_eq_true rfl⟩) hS (fun q _ h => cut_F (cut_D hD) hS hA q h) (cut_F (cut_D hD) hS hA) (fun q _ h => cut_F (cut_D hD) hS hA q h) (fun E ce q9 u t H1 locs1 ht hvm px hBX hz hk hS hcell hv9 hcl => ?_) (fun r1 uu t H1 locs1 ht hvm hpost hB hz hk hS => ?_)
  · obtain ⟨rfl, hB⟩ := hBX
    rw [ht] at hB
    obtain ⟨hP, hD⟩ := cut_J hP hD hk hB rfl
    refine ct_catch hown [] ⟨0, 11, 14, 25⟩ [] (htab.trans rfl) (fun z h => absurd h List.not_mem_nil) (by decide) (by decide) (hts _ kk_L_25) (va_Nw.use rfl (hE.1 _ nv_IllegalArgumentException)) hcell hv9 hcl ?_
    refine lv_astore (lv' := [(5, .ref q9), (0, .ref (a 0)), (1, .int o1), (2, .int p1), (3, .int z), (4, .ref q0)]) hx hb d_L_held_14 hl (by decide) rfl (fun ls hl => ?_)
    refine lv_iconst (v := 1) hx hb d_L_held_16 (by decide) ?_
    exact W.iret (v := 1) hx hb hr (fun t ht hW => ⟨⟨_, (d, V, M, R, O), rfl, Or.inl ⟨rfl, px, rfl, rfl, rfl, rfl⟩, atP hP ht⟩, hS.F ht⟩) hS.2.2 d_L_held_17
  · rw [ht] at hB
    obtain ⟨g, h, hg, hh, e1, e2, e3⟩ := hpost
    obtain ⟨hP, hD⟩ := cut_J hP hD hk hB wx_ad
    refine va_last hx hb hK hP hD hS 0 0 rfl rfl (show vp_in (nI 0) 1 from vp_in_nI (by decide) (by decide)) d_L_held_10 (fun H locs hP hD hS => ?_)
    refine lv_goto (tgt := 18) hx hb d_L_held_11 (by decide) ?_
    refine lv_iconst (v := 0) hx hb d_L_held_18 (by decide) ?_
    exact W.iret (v := 0) hx hb hr (fun t ht hW => ⟨⟨_, (d, V, M, R, vp_updL O 0 r1), rfl, Or.inr ⟨rfl, g, h, hg, hh, e1, e2, rfl, rfl, rfl, rfl, by rw [e3]; exact rfl⟩, atP hP ht⟩, hS.F ht⟩) hS.2.2 d_L_held_19
set_option maxHeartbeats 4000000 in
set_option maxRecDepth 100000 in
theorem m_L_touched (l : Launch) (hl0 : l.stackTraces = false) (D : va_G) (k : Nat → ClassId) (a : Nat → Nat) (d : Nat) (hd : d ≤ 30) (F : Nat → Int64) (V M : Nat → Nat → Int64) (R : Nat → Int32) (q0 : Nat) (O : Nat → Int64) (bw : va_W) (o1 p1 : Int32) (sz : Nat) : Met l y_L_touched (w_L_touched :: TB) rH1 (va_Pc [.ref (a 0), .int o1, .int p1, .ref q0] (PW D k ([(q0, .inl (k 0, 1, .inr (.inl O)))] ++ (WX k a (nI d) F V M R ++ bw)) sz)) (va_Qi (fun (y : Int32) (u : Nat × (Nat → Nat → Int64) × (Nat → Nat → Int64) × (Nat → Int32) × (Nat → Int64)) => (y = 1 ∧ ¬ okP o1 p1 ∧ u.1 = d ∧ u.2.1 = V ∧ u.2.2.1 = M ∧ u.2.2.2.1 = R) ∨ (y = 0 ∧ ∃ g h : Nat, g < 4 ∧ h < 64 ∧ o1 = nI g ∧ p1 = nI h ∧ u.1 = d ∧ u.2.1 = V ∧ u.2.2.1 = M ∧ u.2.2.2.1 = R ∧ u.2.2.2.2 0 = (if tb (M d g) h then 1 else 0))) (fun u t => va_P D wCl ([(q0, .inl (k 0, 1, .inr (.inl u.2.2.2.2)))] ++ (WX k a (nI u.1) F u.2.1 u.2.2.1 u.2.2.2.1 ++ bw)) t.heap) (va_A ([(q0, .inl (k 0, 1, .inr (.inl O)))] ++ (WX k a (nI d) F V M R ++ bw)) sz)) 1 6 (va_A ([(q0, .inl (k 0, 1, .inr (.inl O)))] ++ (WX k a (nI d) F V M R ++ bw)) sz) := by
  refine va_MetW (cc := b_L_touched) (maxL := 5) (ret := some .int) (by decide) rfl ?_
  intro p e s m args below meth c s₁ B hml hv
  obtain ⟨rfl, hsz, hP, hK, hD0, hE⟩ := hv
  have hx := B.exec
  have htab := vx_table (x := y_L_open) B (atoms_spec (ws := w_L_touched :: TB) B.pre _ List.mem_cons_self)
  have hb := B.bytes
  have hr := B.returns
  have hts0 := atoms_spec (ws := w_L_touched :: TB) B.pre
  have hts := fun w (hw : w ∈ TB) => hts0 w (List.mem_cons_of_mem _ hw)
  have hown : s.vm.findClass RL = some m.cls := findClass_of_methodNamed B.named
  have hlocks := B.notSynchronized
  subst hsz
  have hD := hD0.self (sz := s.heap.size)
  generalize hAe : va_A ([(q0, .inl (k 0, 1, .inr (.inl O)))] ++ (WX k a (nI d) F V M R ++ bw)) s.heap.size = A at *
  have hA : ∀ q : Nat, s.heap.size ≤ q → A q := fun q h => by rw [← hAe]; exact Or.inr h
  have hS : va_S A s.heap s.heap [] := va_S.rf
  have hl := lv_entry ([.ref (a 0), .int o1, .int p1, .ref q0]) (n := 5) (Nat.le_of_ble_eq_true rfl)
  rw [lg_entry_eq]
  generalize (lg_sl ([.ref (a 0), .int o1, .int p1, .ref q0]) ++ List.replicate (5 - (lg_sl ([.ref (a 0), .int o1, .int p1, .ref q0])).length) Slot.unset).toArray = ls at hl ⊢
  have hl : lv_has ls 5 [(0, .ref (a 0)), (1, .int o1), (2, .int p1), (3, .ref q0)] := hl
  refine lv_aload_n hx hb d_L_touched_0 rfl (lv_at hl 3 rfl) ?_
  refine lv_iconst (v := 0) hx hb d_L_touched_1 (by decide) ?_
  refine lv_aload_n hx hb d_L_touched_2 rfl (lv_at hl 0 rfl) ?_
  refine lv_iload_n hx hb d_L_touched_3 rfl (lv_at hl 1 rfl) ?_
  refine lv_iload_n hx hb d_L_touched_4 rfl (lv_at hl 2 rfl) ?_
  refine vx_calli (vx_runV (As := [.int o1, .int p1]) (rest := [.int 0, .ref q0]) (C := RX) ⟨hx, hb, hml, hown, hts⟩ (m_X_touched l hl0 D k a d hd F V M R o1 p1 _) (cwV 2 hts (TB_g kl_L_35 ki_X_touched ks_X_touched kz_X (TB_c kc_X_touched)) rfl rfl rfl (by decide +kernel) ⟨Nat.le_of_ble_eq_true rfl, Nat.le_of_ble_eq_true rfl⟩) ⟨PW.bl, va_recv (q := (RX, TX, 3)) (ci := 1) (q0 := 1) hK hP rfl rfl, fun U hU hW => ⟨rfl, PW.go hK (cut_P hP) (cut_D hD) hS hA hE hU hW⟩⟩ rfl rfl hl.1 rfl (lv_room (Nat.le_of_ble_eq_true rfl)) d_L_touched_5 ⟨Nat.le_of_ble_eq_true rfl, Nat.le_of_ble_eq_true rfl⟩) hS (fun q _ h => cut_F (cut_D hD) hS hA q h) (cut_F (cut_D hD) hS hA) (fun q _ h => cut_F (cut_D hD) hS hA q h) (fun E ce q9 u t H1 locs1 ht hvm px hBX hz hk hS hcell hv9 hcl => ?_) (fun r1 uu t H1 locs1 ht hvm hpost hB hz hk hS => ?_)
  · obtain ⟨rfl, hB⟩ := hBX
    rw [ht] at hB
    obtain ⟨hP, hD⟩ := cut_J hP hD hk hB rfl
    refine ct_catch hown [] ⟨0, 17, 20, 25⟩ [] (htab.trans rfl) (fun z h => absurd h List.not_mem_nil) (by decide) (by decide) (hts _ kk_L_25) (va_Nw.use rfl (hE.1 _ nv_IllegalArgumentException)) hcell hv9 hcl ?_
    refine lv_astore (lv' := [(4, .ref q9), (0, .ref (a 0)), (1, .int o1), (2, .int p1), (3, .ref q0)]) hx hb d_L_touched_20 hl (by decide) rfl (fun ls hl => ?_)
    refine lv_iconst (v := 1) hx hb d_L_touched_22 (by decide) ?_
    exact W.iret (v := 1) hx hb hr (fun t ht hW => ⟨⟨_, (d, V, M, R, O), rfl, Or.inl ⟨rfl, px, rfl, rfl, rfl, rfl⟩, atP hP ht⟩, hS.F ht⟩) hS.2.2 d_L_touched_23
  · rw [ht] at hB
    obtain ⟨g, h, hg, hh, e1, e2, e3⟩ := hpost
    obtain ⟨hP, hD⟩ := cut_J hP hD hk hB wx_ad
    refine lv_if_eq (tgt := 15) hx hb d_L_touched_8 (by decide) (fun c_8 => ?_) (fun c_8 => ?_)
    · have er : (0 : Int64) = (if tb (M d g) h then 1 else 0) := by
        rw [e3] at c_8
        cases hq : tb (M d g) h <;> rw [hq] at c_8 <;> first | rfl | exact absurd rfl c_8 | exact absurd c_8 (by decide)
      refine lv_lconst (v := 0) hx hb d_L_touched_15 (by decide) ?_
      refine va_last hx hb hK hP hD hS 0 0 rfl rfl (show vp_in (nI 0) 1 from vp_in_nI (by decide) (by decide)) d_L_touched_16 (fun H locs hP hD hS => ?_)
      refine lv_goto (tgt := 24) hx hb d_L_touched_17 (by decide) ?_
      refine lv_iconst (v := 0) hx hb d_L_touched_24 (by decide) ?_
      exact W.iret (v := 0) hx hb hr (fun t ht hW => ⟨⟨_, (d, V, M, R, vp_updL O 0 0), rfl, Or.inr ⟨rfl, g, h, hg, hh, e1, e2, rfl, rfl, rfl, rfl, by rw [← er]; exact rfl⟩, atP hP ht⟩, hS.F ht⟩) hS.2.2 d_L_touched_25
    · have er : (1 : Int64) = (if tb (M d g) h then 1 else 0) := by
        rw [e3] at c_8
        cases hq : tb (M d g) h <;> rw [hq] at c_8 <;> first | rfl | exact absurd rfl c_8 | exact absurd c_8 (by decide)
      refine lv_lconst (v := 1) hx hb d_L_touched_11 (by decide) ?_
      refine lv_goto (tgt := 16) hx hb d_L_touched_12 (by decide) ?_
      refine va_last hx hb hK hP hD hS 0 0 rfl rfl (show vp_in (nI 0) 1 from vp_in_nI (by decide) (by decide)) d_L_touched_16 (fun H locs hP hD hS => ?_)
      refine lv_goto (tgt := 24) hx hb d_L_touched_17 (by decide) ?_
      refine lv_iconst (v := 0) hx hb d_L_touched_24 (by decide) ?_
      exact W.iret (v := 0) hx hb hr (fun t ht hW => ⟨⟨_, (d, V, M, R, vp_updL O 0 1), rfl, Or.inr ⟨rfl, g, h, hg, hh, e1, e2, rfl, rfl, rfl, rfl, by rw [← er]; exact rfl⟩, atP hP ht⟩, hS.F ht⟩) hS.2.2 d_L_touched_25
set_option maxHeartbeats 4000000 in
set_option maxRecDepth 100000 in
theorem m_L_count (l : Launch) (hl0 : l.stackTraces = false) (D : va_G) (k : Nat → ClassId) (a : Nat → Nat) (d : Nat) (hd : d ≤ 30) (F : Nat → Int64) (V M : Nat → Nat → Int64) (R : Nat → Int32) (q0 : Nat) (O : Nat → Int64) (bw : va_W) (z : Int32) (sz : Nat) : Met l y_L_count (w_L_count :: TB) rH1 (va_Pc [.ref (a 0), .int z, .ref q0] (PW D k ([(q0, .inl (k 0, 1, .inr (.inl O)))] ++ (WX k a (nI d) F V M R ++ bw)) sz)) (va_Qi (fun (y : Int32) (u : Nat × (Nat → Nat → Int64) × (Nat → Nat → Int64) × (Nat → Int32) × (Nat → Int64)) => (y = 1 ∧ (¬ ∃ q : Nat, q < 4 ∧ z = nI q) ∧ u.1 = d ∧ u.2.1 = V ∧ u.2.2.1 = M ∧ u.2.2.2.1 = R) ∨ (y = 0 ∧ ∃ (g : Nat) (x : Int32), g < 4 ∧ z = nI g ∧ u.1 = d ∧ u.2.1 = V ∧ u.2.2.1 = M ∧ u.2.2.2.1 = R ∧ u.2.2.2.2 0 = x.toInt64 ∧ (g = 0 → x = R d) ∧ (g = 1 → x = nI (bsum (M d) 4)) ∧ (g = 2 → x = nI d) ∧ (g = 3 → x = nI (cnt (V d) 256)))) (fun u t => va_P D wCl ([(q0, .inl (k 0, 1, .inr (.inl u.2.2.2.2)))] ++ (WX k a (nI u.1) F u.2.1 u.2.2.1 u.2.2.2.1 ++ bw)) t.heap) (va_A ([(q0, .inl (k 0, 1, .inr (.inl O)))] ++ (WX k a (nI d) F V M R ++ bw)) sz)) 1 6 (va_A ([(q0, .inl (k 0, 1, .inr (.inl O)))] ++ (WX k a (nI d) F V M R ++ bw)) sz) := by
  refine va_MetW (cc := b_L_count) (maxL := 4) (ret := some .int) (by decide) rfl ?_
  intro p e s m args below meth c s₁ B hml hv
  obtain ⟨rfl, hsz, hP, hK, hD0, hE⟩ := hv
  have hx := B.exec
  have htab := vx_table (x := y_L_open) B (atoms_spec (ws := w_L_count :: TB) B.pre _ List.mem_cons_self)
  have hb := B.bytes
  have hr := B.returns
  have hts0 := atoms_spec (ws := w_L_count :: TB) B.pre
  have hts := fun w (hw : w ∈ TB) => hts0 w (List.mem_cons_of_mem _ hw)
  have hown : s.vm.findClass RL = some m.cls := findClass_of_methodNamed B.named
  have hlocks := B.notSynchronized
  subst hsz
  have hD := hD0.self (sz := s.heap.size)
  generalize hAe : va_A ([(q0, .inl (k 0, 1, .inr (.inl O)))] ++ (WX k a (nI d) F V M R ++ bw)) s.heap.size = A at *
  have hA : ∀ q : Nat, s.heap.size ≤ q → A q := fun q h => by rw [← hAe]; exact Or.inr h
  have hS : va_S A s.heap s.heap [] := va_S.rf
  have hl := lv_entry ([.ref (a 0), .int z, .ref q0]) (n := 4) (Nat.le_of_ble_eq_true rfl)
  rw [lg_entry_eq]
  generalize (lg_sl ([.ref (a 0), .int z, .ref q0]) ++ List.replicate (4 - (lg_sl ([.ref (a 0), .int z, .ref q0])).length) Slot.unset).toArray = ls at hl ⊢
  have hl : lv_has ls 4 [(0, .ref (a 0)), (1, .int z), (2, .ref q0)] := hl
  refine lv_aload_n hx hb d_L_count_0 rfl (lv_at hl 2 rfl) ?_
  refine lv_iconst (v := 0) hx hb d_L_count_1 (by decide) ?_
  refine lv_aload_n hx hb d_L_count_2 rfl (lv_at hl 0 rfl) ?_
  refine lv_iload_n hx hb d_L_count_3 rfl (lv_at hl 1 rfl) ?_
  refine vx_calli (vx_runV (As := [.int z]) (rest := [.int 0, .ref q0]) (C := RX) ⟨hx, hb, hml, hown, hts⟩ (m_X_count l hl0 D k a d hd F V M R z _) (cwV 1 hts (TB_g kl_L_39 ki_X_count ks_X_count kz_X (TB_c kc_X_count)) rfl rfl rfl (by decide +kernel) ⟨Nat.le_of_ble_eq_true rfl, Nat.le_of_ble_eq_true rfl⟩) ⟨PW.bl, va_recv (q := (RX, TX, 3)) (ci := 1) (q0 := 1) hK hP rfl rfl, fun U hU hW => ⟨rfl, PW.go hK (cut_P hP) (cut_D hD) hS hA hE hU hW⟩⟩ rfl rfl hl.1 rfl (lv_room (Nat.le_of_ble_eq_true rfl)) d_L_count_4 ⟨Nat.le_of_ble_eq_true rfl, Nat.le_of_ble_eq_true rfl⟩) hS (fun q _ h => cut_F (cut_D hD) hS hA q h) (cut_F (cut_D hD) hS hA) (fun q _ h => cut_F (cut_D hD) hS hA q h) (fun E ce q9 u t H1 locs1 ht hvm px hBX hz hk hS hcell hv9 hcl => ?_) (fun r1 uu t H1 locs1 ht hvm hpost hB hz hk hS => ?_)
  · obtain ⟨rfl, hB⟩ := hBX
    rw [ht] at hB
    obtain ⟨hP, hD⟩ := cut_J hP hD hk hB rfl
    refine ct_catch hown [] ⟨0, 9, 12, 25⟩ [] (htab.trans rfl) (fun z h => absurd h List.not_mem_nil) (by decide) (by decide) (hts _ kk_L_25) (va_Nw.use rfl (hE.1 _ nv_IllegalArgumentException)) hcell hv9 hcl ?_
    refine lv_astore_n (lv' := [(3, .ref q9), (0, .ref (a 0)), (1, .int z), (2, .ref q0)]) hx hb d_L_count_12 rfl hl (by decide) rfl (fun ls hl => ?_)
    refine lv_iconst (v := 1) hx hb d_L_count_13 (by decide) ?_
    exact W.iret (v := 1) hx hb hr (fun t ht hW => ⟨⟨_, (d, V, M, R, O), rfl, Or.inl ⟨rfl, px, rfl, rfl, rfl, rfl⟩, atP hP ht⟩, hS.F ht⟩) hS.2.2 d_L_count_14
  · rw [ht] at hB
    obtain ⟨g, hg, e1, e3⟩ := hpost
    obtain ⟨hP, hD⟩ := cut_J hP hD hk hB wx_ad
    refine lv_i2l hx hb d_L_count_7 rfl ?_
    refine va_last hx hb hK hP hD hS 0 0 rfl rfl (show vp_in (nI 0) 1 from vp_in_nI (by decide) (by decide)) d_L_count_8 (fun H locs hP hD hS => ?_)
    refine lv_goto (tgt := 15) hx hb d_L_count_9 (by decide) ?_
    refine lv_iconst (v := 0) hx hb d_L_count_15 (by decide) ?_
    exact W.iret (v := 0) hx hb hr (fun t ht hW => ⟨⟨_, (d, V, M, R, vp_updL O 0 (((r1) : Int32).toInt64)), rfl, Or.inr ⟨rfl, g, r1, hg, e1, rfl, rfl, rfl, rfl, rfl, e3⟩, atP hP ht⟩, hS.F ht⟩) hS.2.2 d_L_count_16
set_option maxHeartbeats 4000000 in
set_option maxRecDepth 100000 in
theorem m_L_store (l : Launch) (hl0 : l.stackTraces = false) (D : va_G) (k : Nat → ClassId) (a : Nat → Nat) (d : Nat) (hd : d ≤ 30) (F : Nat → Int64) (V M : Nat → Nat → Int64) (R : Nat → Int32) (q0 : Nat) (O : Nat → Int64) (bw : va_W) (o1 p1 : Int32) (x : Int64) (gas : Int32) (sz : Nat) : Met l y_L_store (w_L_store :: TB) rH2 (va_Pc [.ref (a 0), .int o1, .int p1, .long x, .int gas, .ref q0] (PW D k ([(q0, .inl (k 0, 1, .inr (.inl O)))] ++ (WX k a (nI d) F V M R ++ bw)) sz)) (va_Qi (fun (y : Int32) (u : Nat × (Nat → Nat → Int64) × (Nat → Nat → Int64) × (Nat → Int32) × (Nat → Int64)) => (y = 1 ∧ ¬ okP o1 p1 ∧ u.1 = d ∧ u.2.1 = V ∧ u.2.2.1 = M ∧ u.2.2.2.1 = R) ∨ (y = 2 ∧ ∃ g h : Nat, g < 4 ∧ h < 64 ∧ o1 = nI g ∧ p1 = nI h ∧ (gas ≤ 2300 ∨ ¬ fWC (F (g * 64 + h)) (V d (g * 64 + h)) x + (if tb (M d g) h then 0 else 2100) ≤ gas) ∧ u.1 = d ∧ u.2.1 = V ∧ u.2.2.1 = M ∧ u.2.2.2.1 = R) ∨ (y = 0 ∧ ∃ g h : Nat, g < 4 ∧ h < 64 ∧ o1 = nI g ∧ p1 = nI h ∧ ¬ gas ≤ 2300 ∧ fWC (F (g * 64 + h)) (V d (g * 64 + h)) x + (if tb (M d g) h then 0 else 2100) ≤ gas ∧ u.1 = d ∧ u.2.1 = va_up V d (vp_updL (V d) (g * 64 + h) x) ∧ u.2.2.1 = va_up M d (vp_updL (M d) g (tbs (M d g) h)) ∧ u.2.2.2.1 = va_up R d (R d + fRC (F (g * 64 + h)) (V d (g * 64 + h)) x) ∧ u.2.2.2.2 0 = (fWC (F (g * 64 + h)) (V d (g * 64 + h)) x + (if tb (M d g) h then 0 else 2100)).toInt64)) (fun u t => va_P D wCl ([(q0, .inl (k 0, 1, .inr (.inl u.2.2.2.2)))] ++ (WX k a (nI u.1) F u.2.1 u.2.2.1 u.2.2.2.1 ++ bw)) t.heap) (va_A ([(q0, .inl (k 0, 1, .inr (.inl O)))] ++ (WX k a (nI d) F V M R ++ bw)) sz)) 2 12 (va_A ([(q0, .inl (k 0, 1, .inr (.inl O)))] ++ (WX k a (nI d) F V M R ++ bw)) sz) := by
  refine va_MetW (cc := b_L_store) (maxL := 8) (ret := some .int) (by decide) rfl ?_
  intro p e s m args below meth c s₁ B hml hv
  obtain ⟨rfl, hsz, hP, hK, hD0, hE⟩ := hv
  have hx := B.exec
  have htab := vx_table (x := y_L_open) B (atoms_spec (ws := w_L_store :: TB) B.pre _ List.mem_cons_self)
  have hb := B.bytes
  have hr := B.returns
  have hts0 := atoms_spec (ws := w_L_store :: TB) B.pre
  have hts := fun w (hw : w ∈ TB) => hts0 w (List.mem_cons_of_mem _ hw)
  have hown : s.vm.findClass RL = some m.cls := findClass_of_methodNamed B.named
  have hlocks := B.notSynchronized
  subst hsz
  have hD := hD0.self (sz := s.heap.size)
  generalize hAe : va_A ([(q0, .inl (k 0, 1, .inr (.inl O)))] ++ (WX k a (nI d) F V M R ++ bw)) s.heap.size = A at *
  have hA : ∀ q : Nat, s.heap.size ≤ q → A q := fun q h => by rw [← hAe]; exact Or.inr h
  have hS : va_S A s.heap s.heap [] := va_S.rf
  have hl := lv_entry ([.ref (a 0), .int o1, .int p1, .long x, .int gas, .ref q0]) (n := 8) (Nat.le_of_ble_eq_true rfl)
  rw [lg_entry_eq]
  generalize (lg_sl ([.ref (a 0), .int o1, .int p1, .long x, .int gas, .ref q0]) ++ List.replicate (8 - (lg_sl ([.ref (a 0), .int o1, .int p1, .long x, .int gas, .ref q0])).length) Slot.unset).toArray = ls at hl ⊢
  have hl : lv_has ls 8 [(0, .ref (a 0)), (1, .int o1), (2, .int p1), (3, .long x), (5, .int gas), (6, .ref q0)] := hl
  refine lv_aload hx hb d_L_store_0 (lv_at hl 5 rfl) ?_
  refine lv_iconst (v := 0) hx hb d_L_store_2 (by decide) ?_
  refine lv_aload_n hx hb d_L_store_3 rfl (lv_at hl 0 rfl) ?_
  refine lv_iload_n hx hb d_L_store_4 rfl (lv_at hl 1 rfl) ?_
  refine lv_iload_n hx hb d_L_store_5 rfl (lv_at hl 2 rfl) ?_
  refine lv_lload_n hx hb d_L_store_6 rfl (lv_at hl 3 rfl) ?_
  refine lv_iload hx hb d_L_store_7 (lv_at hl 4 rfl) ?_
  refine vx_calli (vx_runV (As := [.int o1, .int p1, .long x, .int gas]) (rest := [.int 0, .ref q0]) (C := RX) ⟨hx, hb, hml, hown, hts⟩ (m_X_store l hl0 D k a d hd F V M R o1 p1 x gas _) (cwV 4 hts (TB_g kl_L_27 ki_X_store ks_X_store kz_X (TB_c kc_X_store)) rfl rfl rfl (by decide +kernel) ⟨Nat.le_of_ble_eq_true rfl, Nat.le_of_ble_eq_true rfl⟩) ⟨PW.bl, va_recv (q := (RX, TX, 3)) (ci := 1) (q0 := 1) hK hP rfl rfl, fun U hU hW => ⟨rfl, PW.go hK (cut_P hP) (cut_D hD) hS hA hE hU hW⟩⟩ rfl rfl hl.1 rfl (lv_room (Nat.le_of_ble_eq_true rfl)) d_L_store_9 ⟨Nat.le_of_ble_eq_true rfl, Nat.le_of_ble_eq_true rfl⟩) hS (fun q _ h => cut_F (cut_D hD) hS hA q h) (cut_F (cut_D hD) hS hA) (fun q _ h => cut_F (cut_D hD) hS hA q h) (fun E ce q9 u t H1 locs1 ht hvm px hBX hz hk hS hcell hv9 hcl => ?_) (fun r1 uu t H1 locs1 ht hvm hpost hB hz hk hS => ?_)
  · obtain ⟨hw, hB⟩ := hBX
    rcases hw with ⟨rfl, px⟩ | ⟨rfl, px⟩
    · rw [ht] at hB
      obtain ⟨hP, hD⟩ := cut_J hP hD hk hB rfl
      refine ct_catch hown [] ⟨0, 14, 17, 25⟩ [⟨0, 14, 21, 19⟩] (htab.trans rfl) (fun z h => absurd h List.not_mem_nil) (by decide) (by decide) (hts _ kk_L_25) (va_Nw.use rfl (hE.1 _ nv_IllegalArgumentException)) hcell hv9 hcl ?_
      refine lv_astore (lv' := [(7, .ref q9), (0, .ref (a 0)), (1, .int o1), (2, .int p1), (3, .long x), (5, .int gas), (6, .ref q0)]) hx hb d_L_store_17 hl (by decide) rfl (fun ls hl => ?_)
      refine lv_iconst (v := 1) hx hb d_L_store_19 (by decide) ?_
      exact W.iret (v := 1) hx hb hr (fun t ht hW => ⟨⟨_, (d, V, M, R, O), rfl, Or.inl ⟨rfl, px, rfl, rfl, rfl, rfl⟩, atP hP ht⟩, hS.F ht⟩) hS.2.2 d_L_store_20
    · rw [ht] at hB
      obtain ⟨hP, hD⟩ := cut_J hP hD hk hB rfl
      refine ct_catch hown [⟨0, 14, 17, 25⟩] ⟨0, 14, 21, 19⟩ [] (htab.trans rfl) (fun z h => by rw [List.mem_singleton.mp h]; exact Or.inr ⟨by decide, EIAE, hts _ kk_L_25, hE.2.2.2.2.2.2.2.2⟩) (by decide) (by decide) (hts _ kk_L_19) (va_Nw.use rfl (hE.1 _ nv_IllegalStateException)) hcell hv9 hcl ?_
      refine lv_astore (lv' := [(7, .ref q9), (0, .ref (a 0)), (1, .int o1), (2, .int p1), (3, .long x), (5, .int gas), (6, .ref q0)]) hx hb d_L_store_21 hl (by decide) rfl (fun ls hl => ?_)
      refine lv_iconst (v := 2) hx hb d_L_store_23 (by decide) ?_
      exact W.iret (v := 2) hx hb hr (fun t ht hW => ⟨⟨_, (d, V, M, R, O), rfl, Or.inr (Or.inl (by obtain ⟨g, h, hg, hh, e1, e2, e3⟩ := px; exact ⟨rfl, g, h, hg, hh, e1, e2, e3, rfl, rfl, rfl, rfl⟩)), atP hP ht⟩, hS.F ht⟩) hS.2.2 d_L_store_24
  · rw [ht] at hB
    obtain ⟨V2, M2, R2⟩ := uu
    obtain ⟨g, h, hg, hh, e1, e2, e3, e4, e5, e6, e7, e8⟩ := hpost
    dsimp only at e6 e7 e8 hB
    subst e6 e7 e8
    obtain ⟨hP, hD⟩ := cut_J hP hD hk hB wx_ad
    refine lv_i2l hx hb d_L_store_12 rfl ?_
    refine va_last hx hb hK hP hD hS 0 0 rfl rfl (show vp_in (nI 0) 1 from vp_in_nI (by decide) (by decide)) d_L_store_13 (fun H locs hP hD hS => ?_)
    refine lv_goto (tgt := 25) hx hb d_L_store_14 (by decide) ?_
    refine lv_iconst (v := 0) hx hb d_L_store_25 (by decide) ?_
    exact W.iret (v := 0) hx hb hr (fun t ht hW => ⟨⟨_, (d, va_up V d (vp_updL (V d) (g * 64 + h) x), va_up M d (vp_updL (M d) g (tbs (M d g) h)), va_up R d (R d + fRC (F (g * 64 + h)) (V d (g * 64 + h)) x), vp_updL O 0 (((r1) : Int32).toInt64)), rfl, Or.inr (Or.inr ⟨rfl, g, h, hg, hh, e1, e2, e4, e5, rfl, rfl, rfl, rfl, by rw [e3]; exact rfl⟩), atP hP ht⟩, hS.F ht⟩) hS.2.2 d_L_store_26
