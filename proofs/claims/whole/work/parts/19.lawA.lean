/-! the law: one call of the script -/
def R_law : String := "StorageCostsLaw"
def lw_P (b : Addr) (xs : List Int32) (args : Array Value) (s : State) : Prop := args = #[.ref b] ∧ s.IntsAt b xs ∧ xs.length ≤ 3072 ∧ (Jvm.Cond.and given_1 narrow_1).before args s = true
def lw_Q (_ : Array Value) (s : State) (o : Outcome) (t : State) : Prop := o = .returned (some (.int 1)) ∧ Framed s o t [] 601024 7293034
def lw_Z (below : List Frame) (a : Array Value) (s : State) : State → Prop := fun t => ∃ o, t.status = .running ∧ Ended t below o ∧ lw_Q a s o t
/-- the law's own end, with 1 on the stack, nothing written that was there before, its room as the claim has it -/
theorem lw_ret {p : Program} {l : Launch} {e : Env} {s : State} {m : MethodId} {below : List Frame} {meth : Method} {c : Code} {b : Nat} (hx : p.tables.exec = Jvm.exec) (hb : c.code = code) (hr : meth.sig.returnType = ret) (hlocks : meth.locks = false) {pc : Nat} {H : Heap} {ls : Array Slot} (hdg : decode code pc = .ok (.ireturn, 1)) : W p l e room_1 s m #[Value.ref b] below meth c H [] 601024 7293034 (lw_Z below #[Value.ref b] s) (F0 m pc ls [.int 1]) := by
  intro T hT X
  obtain ⟨fs, hret, hrun, hended, hW, hframe⟩ := X.leave (v := some (.int 1)) (hlocks := hlocks) (fun h => by rw [hr] at h; cases h)
  have hmeth' : T.vm.method? m = some meth := X.method'
  refine ⟨T.setFrames fs, ?_, .returned (some (.int 1)), hrun, hended, rfl, ⟨_, rfl⟩, hW, hframe⟩
  jvm_step X.here [X.here.top, hx, hb, hdg, hmeth', hr, ret, narrow_b1]
  (try refine ⟨rfl, ?_⟩); (try refine ⟨rfl, ?_⟩)
  first | (intro acts; rw [hret _ acts rfl rfl rfl]) | rw [hret _ _ rfl rfl rfl]
  exact Steps.refl _
/-- what holds at the law's entry: the machine, the code, the tables' words (any of lw_tbl by 'hts w (by decide +kernel)'), the script of L ints xs at the cell b, what the Statement gives of the start (any of its parts by flat_of_before) -/
def lw_At (p : Program) (s : State) (m : MethodId) (meth : Method) (c : Code) (b L : Nat) (xs : Nat → Int32) : Prop :=
  p.tables.exec = Jvm.exec ∧ c.code = code ∧ meth.sig.returnType = ret ∧ c.maxLocals = 8 ∧ s.vm.findClass R_law = some m.cls ∧ (∀ w ∈ lw_tbl, w.before #[Value.ref b] s = true) ∧ va_X b L xs s s.heap ∧ b < s.heap.size ∧ meth.locks = false ∧ (Jvm.Cond.and given_1 narrow_1).before #[Value.ref b] s = true

/-- the law's cells: out, the class's object, the reference's -/
abbrev lwW (k : Nat → ClassId) (a b : Nat → Nat) (q0 d : Nat) (F : Nat → Int64) (V M : Nat → Nat → Int64) (R : Nat → Int32) (O : Nat → Int64) (f r : Int32) (N G : Nat → Int64) (t : Nat → Bool) (KR : Nat → Int32) (K : Nat → Nat → Int64) (T : Nat → Nat → Bool) : va_W :=
  [(q0, .inl (k 0, 1, .inr (.inl O)))] ++ (WX k a (nI d) F V M R ++ WM k b f r (nI d) N G (zb t) KR K (fun i => zb (T i)))
theorem lw_ad {k : Nat → ClassId} {a : Nat → Nat} {q0 : Nat} {d1 d2 : Int32} {F F2 : Nat → Int64} {V M V2 M2 : Nat → Nat → Int64} {R R2 : Nat → Int32} {O O2 : Nat → Int64} {bw : va_W} :
    ([(q0, .inl (k 0, 1, .inr (.inl O)))] ++ (WX k a d1 F V M R ++ bw) : va_W).map Prod.fst = ([(q0, .inl (k 0, 1, .inr (.inl O2)))] ++ (WX k a d2 F2 V2 M2 R2 ++ bw) : va_W).map Prod.fst := by
  rw [List.map_append, List.map_append, List.map_append, List.map_append, wx_ad (d := d1) (d' := d2) (F' := F2) (V' := V2) (M' := M2) (R' := R2)]
  rfl
theorem lwA (x : Nat × va_E) (A B : va_W) : [x] ++ (A ++ B) = ([x] ++ A) ++ (B ++ []) := by simp
theorem cutM_P {D : va_G} {cl : List vw_C} {x : Nat × va_E} {A B : va_W} {H : Heap} (h : va_P D cl ([x] ++ (A ++ B)) H) : va_P D cl B H := by
  rw [lwA] at h; exact cut_P h
theorem cutM_D {Z : Nat → Prop} {x : Nat × va_E} {A B : va_W} (h : va_D Z ([x] ++ (A ++ B))) : va_D Z B := by
  rw [lwA] at h; exact cut_D h
theorem cutM_J {A0 : Nat → Prop} {D : va_G} {cl : List vw_C} {x : Nat × va_E} {A B B1 : va_W} {H H1 : Heap} (hP : va_P D cl ([x] ++ (A ++ B)) H) (hD : va_D A0 ([x] ++ (A ++ B))) (hk : ∀ q : Nat, q < H.size → ¬ va_A B H.size q → H1[q]? = H[q]?) (hP1 : va_P D cl B1 H1) (e : B1.map Prod.fst = B.map Prod.fst) :
    va_P D cl ([x] ++ (A ++ B1)) H1 ∧ va_D A0 ([x] ++ (A ++ B1)) := by
  rw [lwA] at hP hD ⊢
  exact cut_J hP hD hk hP1 e
theorem nI_u {u v : Nat} (hu : u < 64) (hv : v < 64) (h : nI u = nI v) : u = v := (nI_eq (by omega) (by omega)).mp h
theorem scr_in {n j L : Nat} (h : n + j < L) (hL : L ≤ 3072) {y : Int32} (hy : y = nI j := by rfl) : vp_in (nI n + y) L := by
  rw [hy, nI_add]; exact vp_in_nI h (by omega)
/-- from the place pc of the law on, with n ints read, all goes well -/
def lwS (p : Program) (l : Launch) (e : Env) (s : State) (m : MethodId) (below : List Frame) (meth : Method) (c : Code) (D : va_G) (k : Nat → ClassId) (a b : Nat → Nat) (q0 b0 n pc cells slots : Nat) : Prop :=
  ∀ (d : Nat) (F : Nat → Int64) (V M : Nat → Nat → Int64) (R : Nat → Int32) (f r : Int32) (N G : Nat → Int64) (t : Nat → Bool) (KR : Nat → Int32) (K : Nat → Nat → Int64) (T : Nat → Nat → Bool) (O : Nat → Int64) (H : Heap) (locs : List Loc) (ls : Array Slot),
    RI d F V M R N G t KR K T r → va_P D wCl (lwW k a b q0 d F V M R O f r N G t KR K T) H → va_D (fun q : Nat => s.heap.size ≤ q) (lwW k a b q0 d F V M R O f r N G t KR K T) → va_S (fun q : Nat => s.heap.size ≤ q) s.heap H locs →
    lv_has ls 8 [(0, .ref b0), (1, .ref (a 0)), (2, .ref (b 0)), (3, .ref q0), (4, .int (nI n))] → W p l e room_1 s m #[Value.ref b0] below meth c H locs cells slots (lw_Z below #[Value.ref b0] s) (F0 m pc ls [])

set_option maxHeartbeats 4000000 in
set_option maxRecDepth 100000 in
theorem law_begin {p : Program} {l : Launch} {e : Env} {s : State} {m : MethodId} {below : List Frame} {meth : Method} {c : Code} {D : va_G} {k : Nat → ClassId} {a b : Nat → Nat} {q0 b0 L : Nat} {xs : Nat → Int32} (hl0 : l.stackTraces = false) (hL : L ≤ 3072) (C0 : lw_At p s m meth c b0 L xs) (hK : va_K D wCl (tyL k) s) (hE : EV (fun q : Nat => s.heap.size ≤ q) s) {n cells slots : Nat} (hn : n + 6 ≤ L) (hc : cells + 2 ≤ 601024) (hs : slots + 12 ≤ 7293034) (kk : lwS p l e s m below meth c D k a b q0 b0 n 635 (cells + 2) (slots + 12)) : lwS p l e s m below meth c D k a b q0 b0 n 88 (cells) (slots) := by
  obtain ⟨hx, hb, hr, hml, hown, hts0, hX, hbl, hlocks, hgv⟩ := C0
  have hts := TB_in hts0
  have hown : s.vm.findClass RL = some m.cls := hown
  have hA : ∀ q : Nat, s.heap.size ≤ q → (fun q : Nat => s.heap.size ≤ q) q := fun _ h => h
  have hbA : ¬ (fun q : Nat => s.heap.size ≤ q) b0 := Nat.not_le.mpr hbl
  intro d F V M R f r N G t KR K T O H locs ls hI hP hD hS hl
  have hd : d ≤ 30 := hI.1
  refine lv_aload_n hx hb d_L_law_88 rfl (lv_at hl 1 rfl) ?_
  refine va_calli (va_runV (As := []) (rest := []) (C := RX) ⟨hx, hb, hml, hown, hts⟩ (m_X_begin l D k a d hd F V M R _) (cwV 0 hts (TB_g kl_L_47 ki_X_begin ks_X_begin kz_X (TB_c kc_X_begin)) rfl rfl rfl (by decide +kernel) ⟨Nat.le_of_ble_eq_true rfl, Nat.le_of_ble_eq_true rfl⟩) ⟨PW.bl, va_recv (q := (RX, TX, 3)) (ci := 1) (q0 := 1) hK hP rfl rfl, fun U hU hW => ⟨rfl, PW.go hK (cut_P hP) (cut_D hD) hS hA hE hU hW⟩⟩ rfl rfl hl.1 rfl (lv_room (Nat.le_of_ble_eq_true rfl)) d_L_law_89 ⟨(show cells + 0 ≤ 601024 by omega), (show slots + 0 ≤ 7293034 by omega)⟩) hS (fun q _ h => cut_F (cut_D hD) hS hA q h) (cut_F (cut_D hD) hS hA) (fun y uu t1 H1 locs1 ht hvm hpost hB hz hk hS => ?_)
  obtain ⟨F2, V2, M2, R2⟩ := uu
  obtain ⟨g1, g2, g3, g4, g5⟩ := hpost
  dsimp only at g1 g2 g3 g4 g5 hB
  rw [ht] at hB
  obtain ⟨hP, hD⟩ := cut_J hP hD hk hB wx_ad
  generalize H1 = H at hP hS ⊢
  generalize locs1 = locs at hS ⊢
  refine lv_aload_n hx hb d_L_law_92 rfl (lv_at hl 2 rfl) ?_
  refine va_calli (va_runV (As := []) (rest := [.int y]) (C := RM) ⟨hx, hb, hml, hown, hts⟩ (m_M_begin l D k b f r (nI d) N G t KR K T _) (cwV 0 hts (TB_g kl_L_50 ki_M_begin ks_M_begin kz_M (TB_c kc_M_begin)) rfl rfl rfl (by decide +kernel) ⟨Nat.le_of_ble_eq_true rfl, Nat.le_of_ble_eq_true rfl⟩) ⟨PW.bl, va_recv (q := (RM, TM, 9)) (ci := 2) (q0 := 0) hK (cutM_P hP) rfl rfl, fun U hU hW => ⟨rfl, PW.go hK (cutM_P hP) (cutM_D hD) hS hA hE hU hW⟩⟩ rfl rfl hl.1 rfl (lv_room (Nat.le_of_ble_eq_true rfl)) d_L_law_93 ⟨(show cells + 0 + 0 ≤ 601024 by omega), (show slots + 0 + 0 ≤ 7293034 by omega)⟩) hS (fun q _ h => cut_F (cutM_D hD) hS hA q h) (cut_F (cutM_D hD) hS hA) (fun x ww t2 H1 locs1 ht hvm hpost2 hB hz hk hS => ?_)
  rw [ht] at hB
  obtain ⟨hP, hD⟩ := cutM_J hP hD hk hB wm_ad
  generalize H1 = H at hP hS ⊢
  generalize locs1 = locs at hS ⊢
  obtain ⟨G2, t2⟩ := ww
  obtain ⟨g6, g7, g8⟩ := hpost2
  dsimp only at g6 g7 g8 hP hD
  obtain ⟨hI2, hcn⟩ := ri_begin hI g1 g2 g3 g4 g6 g7
  refine lv_icmp_eq (tgt := 635) hx hb d_L_law_96 (by decide) (fun c_96 => ?_) (fun c_96 => ?_)
  · refine W.widen (k := cells + 2) (n := slots + 12) (by omega) (by omega) ?_
    exact kk 0 F2 V2 M2 R2 0 0 N G2 t2 KR K T O H locs ls hI2 hP hD hS (lv_sub hl [0, 1, 2, 3, 4] rfl)
  · exact absurd (by rw [g5, g8, hcn]) c_96
set_option maxHeartbeats 4000000 in
set_option maxRecDepth 100000 in
theorem law_open {p : Program} {l : Launch} {e : Env} {s : State} {m : MethodId} {below : List Frame} {meth : Method} {c : Code} {D : va_G} {k : Nat → ClassId} {a b : Nat → Nat} {q0 b0 L : Nat} {xs : Nat → Int32} (hl0 : l.stackTraces = false) (hL : L ≤ 3072) (C0 : lw_At p s m meth c b0 L xs) (hK : va_K D wCl (tyL k) s) (hE : EV (fun q : Nat => s.heap.size ≤ q) s) {n cells slots : Nat} (hn : n + 6 ≤ L) (hc : cells + 2 ≤ 601024) (hs : slots + 12 ≤ 7293034) (kk : lwS p l e s m below meth c D k a b q0 b0 n 635 (cells + 2) (slots + 12)) : lwS p l e s m below meth c D k a b q0 b0 n 101 (cells) (slots) := by
  obtain ⟨hx, hb, hr, hml, hown, hts0, hX, hbl, hlocks, hgv⟩ := C0
  have hts := TB_in hts0
  have hown : s.vm.findClass RL = some m.cls := hown
  have hA : ∀ q : Nat, s.heap.size ≤ q → (fun q : Nat => s.heap.size ≤ q) q := fun _ h => h
  have hbA : ¬ (fun q : Nat => s.heap.size ≤ q) b0 := Nat.not_le.mpr hbl
  intro d F V M R f r N G t KR K T O H locs ls hI hP hD hS hl
  have hd : d ≤ 30 := hI.1
  refine lv_aload_n hx hb d_L_law_101 rfl (lv_at hl 1 rfl) ?_
  refine lv_aload_n hx hb d_L_law_102 rfl (lv_at hl 3 rfl) ?_
  refine va_calli (vx_runSW (As := [.ref (a 0), .ref q0]) (rest := []) ⟨hx, hb, hml, hown, hts⟩ (m_L_open l hl0 D k a d hd F V M R q0 O _ _) (vx_cwSW 2 hts (TB_g3 kl_L_51 kt_L_open kz_L (TB_c kc_L_open)) rfl rfl rfl (by decide +kernel) ⟨Nat.le_of_ble_eq_true rfl, Nat.le_of_ble_eq_true rfl⟩) ⟨PW.bl, fun U hU hW => ⟨rfl, PW.go hK hP hD hS hA hE hU hW⟩⟩ rfl rfl hl.1 rfl (lv_room (Nat.le_of_ble_eq_true rfl)) d_L_law_103 ⟨(show cells + 1 ≤ 601024 by omega), (show slots + 6 ≤ 7293034 by omega)⟩) hS (fun q _ h => cut_F hD hS hA q h) (cut_F hD hS hA) (fun y uu t1 H1 locs1 ht hvm hpost hB hz hk hS => ?_)
  obtain ⟨d2, V2, M2, R2, O2⟩ := uu
  dsimp only at hpost hB
  rw [ht] at hB
  have hP := hB
  have hD := hD.ad (lw_ad (d1 := nI d2) (F := F) (V := V2) (M := M2) (R := R2) (O := O2))
  generalize H1 = H at hP hS ⊢
  generalize locs1 = locs at hS ⊢
  refine lv_istore (lv' := [(5, .int y), (0, .ref b0), (1, .ref (a 0)), (2, .ref (b 0)), (3, .ref q0), (4, .int (nI n))]) hx hb d_L_law_106 hl (by decide) rfl (fun ls hl => ?_)
  refine lv_aload_n hx hb d_L_law_108 rfl (lv_at hl 3 rfl) ?_
  refine va_calli (va_runV (As := []) (rest := []) (C := RM) ⟨hx, hb, hml, hown, hts⟩ (m_M_open l D k b f r d hd N G t KR K T _) (cwV 0 hts (TB_g kl_L_56 ki_M_open ks_M_open kz_M (TB_c kc_M_open)) rfl rfl rfl (by decide +kernel) ⟨Nat.le_of_ble_eq_true rfl, Nat.le_of_ble_eq_true rfl⟩) ⟨PW.bl, va_recv (q := (RM, TM, 9)) (ci := 2) (q0 := 0) hK (cutM_P hP) rfl rfl, fun U hU hW => ⟨rfl, PW.go hK (cutM_P hP) (cutM_D hD) hS hA hE hU hW⟩⟩ rfl rfl hl.1 rfl (lv_room (Nat.le_of_ble_eq_true rfl)) d_L_law_109 ⟨(show cells + 1 + 0 ≤ 601024 by omega), (show slots + 6 + 0 ≤ 7293034 by omega)⟩) hS (fun q _ h => cut_F (cutM_D hD) hS hA q h) (cut_F (cutM_D hD) hS hA) (fun x ww t2 H1 locs1 ht hvm hpost2 hB hz hk hS => ?_)
  rw [ht] at hB
  obtain ⟨hP, hD⟩ := cutM_J hP hD hk hB wm_ad
  generalize H1 = H at hP hS ⊢
  generalize locs1 = locs at hS ⊢
  obtain ⟨f2, d3, KR2, K2, T2⟩ := ww
  dsimp only at hpost2 hP hD
  rcases hpost with ⟨e0, hno, e1, e2, e3, e4⟩ | ⟨e0, hyes, e1, e2, e3, e4, e5⟩
  · rcases hpost2 with ⟨hno2, g1, g2⟩ | ⟨hyes2, -⟩
    rotate_left
    · exact absurd hyes2 hno
    obtain ⟨rfl, rfl, rfl, rfl, rfl⟩ : 1 = f2 ∧ d = d3 ∧ KR = KR2 ∧ K = K2 ∧ T = T2 := by injection g2 with g2 g3; injection g3 with g3 g4; injection g4 with g4 g5; injection g5 with g5 g6; exact ⟨g2.symm, g3.symm, g4.symm, g5.symm, g6.symm⟩
    have e1 := e1.symm
    have e2 := e2.symm
    have e3 := e3.symm
    have e4 := e4.symm
    subst e0 e1 e2 e3 e4
    refine lv_istore (lv' := [(6, .int x), (5, .int 1), (0, .ref b0), (1, .ref (a 0)), (2, .ref (b 0)), (3, .ref q0), (4, .int (nI n))]) hx hb d_L_law_112 hl (by decide) rfl (fun ls hl => ?_)
    refine lv_aload_n hx hb d_L_law_114 rfl (lv_at hl 4 rfl) ?_
    refine vp_callSi (va_runV (As := []) (rest := []) (C := RM) ⟨hx, hb, hml, hown, hts⟩ (m_M_thrown l D k b 1 r (nI d) N G t KR K T _) (cwV 0 hts (TB_g kl_L_57 ki_M_thrown ks_M_thrown kz_M (TB_c kc_M_thrown)) rfl rfl rfl (by decide +kernel) ⟨Nat.le_of_ble_eq_true rfl, Nat.le_of_ble_eq_true rfl⟩) ⟨PW.bl, va_recv (q := (RM, TM, 9)) (ci := 2) (q0 := 0) hK (cutM_P hP) rfl rfl, fun U hU hW => ⟨rfl, PW.go hK (cutM_P hP) (cutM_D hD) hS hA hE hU hW⟩⟩ rfl rfl hl.1 rfl (lv_room (Nat.le_of_ble_eq_true rfl)) d_L_law_115 ⟨(show cells + 1 + 0 + 0 ≤ 601024 by omega), (show slots + 6 + 0 + 0 ≤ 7293034 by omega)⟩).run (fun h1 hh1 => ?_)
    subst hh1
    refine lv_iload hx hb d_L_law_118 (lv_at hl 1 rfl) ?_
    refine lv_icmp_eq (tgt := 125) hx hb d_L_law_120 (by decide) (fun c_120 => ?_) (fun c_120 => ?_)
    · refine lv_iload hx hb d_L_law_125 (lv_at hl 1 rfl) ?_
      refine lv_if_ne (tgt := 142) hx hb d_L_law_127 (by decide) (fun c_127 => ?_) (fun c_127 => ?_)
      · refine lv_goto (tgt := 635) hx hb d_L_law_142 (by decide) ?_
        refine W.widen (k := cells + 2) (n := slots + 12) (by omega) (by omega) ?_
        exact kk d F V M R 1 r N G t KR K T O2 H locs ls hI hP hD hS (lv_sub hl [2, 3, 4, 5, 6] rfl)
      · exact absurd c_127 (by decide)
    · exact absurd rfl c_120
  · rcases hpost2 with ⟨hno2, -⟩ | ⟨-, g1, g2, g3, g4, ⟨gg, hgg, g5⟩, ⟨gh, hgh, g6⟩⟩
    · exact absurd hyes hno2
    subst e0 e1 e2 e3 e4 g1 g2 g3 g4 g5 g6
    refine lv_istore (lv' := [(6, .int (nI (d + 1))), (5, .int 0), (0, .ref b0), (1, .ref (a 0)), (2, .ref (b 0)), (3, .ref q0), (4, .int (nI n))]) hx hb d_L_law_112 hl (by decide) rfl (fun ls hl => ?_)
    refine lv_aload_n hx hb d_L_law_114 rfl (lv_at hl 4 rfl) ?_
    refine vp_callSi (va_runV (As := []) (rest := []) (C := RM) ⟨hx, hb, hml, hown, hts⟩ (m_M_thrown l D k b 0 r (nI (d + 1)) N G t (upd KR (d + 1) r) (va_up K (d + 1) gg) (va_up T (d + 1) gh) _) (cwV 0 hts (TB_g kl_L_57 ki_M_thrown ks_M_thrown kz_M (TB_c kc_M_thrown)) rfl rfl rfl (by decide +kernel) ⟨Nat.le_of_ble_eq_true rfl, Nat.le_of_ble_eq_true rfl⟩) ⟨PW.bl, va_recv (q := (RM, TM, 9)) (ci := 2) (q0 := 0) hK (cutM_P hP) rfl rfl, fun U hU hW => ⟨rfl, PW.go hK (cutM_P hP) (cutM_D hD) hS hA hE hU hW⟩⟩ rfl rfl hl.1 rfl (lv_room (Nat.le_of_ble_eq_true rfl)) d_L_law_115 ⟨(show cells + 1 + 0 + 0 ≤ 601024 by omega), (show slots + 6 + 0 + 0 ≤ 7293034 by omega)⟩).run (fun h1 hh1 => ?_)
    subst hh1
    refine lv_iload hx hb d_L_law_118 (lv_at hl 1 rfl) ?_
    refine lv_icmp_eq (tgt := 125) hx hb d_L_law_120 (by decide) (fun c_120 => ?_) (fun c_120 => ?_)
    · refine lv_iload hx hb d_L_law_125 (lv_at hl 1 rfl) ?_
      refine lv_if_ne (tgt := 142) hx hb d_L_law_127 (by decide) (fun c_127 => ?_) (fun c_127 => ?_)
      · exact absurd rfl c_127
      · refine lv_aload_n hx hb d_L_law_130 rfl (lv_at hl 5 rfl) ?_
        refine lv_iconst (v := 0) hx hb d_L_law_131 (by decide) ?_
        refine va_lald hx hb hK hP 0 0 rfl rfl (show vp_in (nI 0) 1 from vp_in_nI (by decide) (by decide)) d_L_law_132 ?_
        have er : O2 (0 : Int32).toNatClampNeg = ((nI (d + 1)) : Int32).toInt64 := e5
        refine lv_iload hx hb d_L_law_133 (lv_at hl 0 rfl) ?_
        refine lv_i2l hx hb d_L_law_135 rfl ?_
        refine W.lcmp hx hb d_L_law_136 ?_
        refine lv_if_eq (tgt := 142) hx hb d_L_law_137 (by decide) (fun c_137 => ?_) (fun c_137 => ?_)
        · have c_137 : O2 (0 : Int32).toNatClampNeg = ((nI (d + 1)) : Int32).toInt64 := (lg_cmp_eq _ _).mp c_137
          refine lv_goto (tgt := 635) hx hb d_L_law_142 (by decide) ?_
          refine W.widen (k := cells + 2) (n := slots + 12) (by omega) (by omega) ?_
          exact kk (d + 1) F (va_up V (d + 1) (va_cpy (V d) (V (d + 1)) 0 0 256)) (va_up M (d + 1) (va_cpy (M d) (M (d + 1)) 0 0 4)) (va_up R (d + 1) (R d)) 0 r N G t (upd KR (d + 1) r) (va_up K (d + 1) gg) (va_up T (d + 1) gh) O2 H locs ls (ri_open hI hyes hgg hgh) hP hD hS (lv_sub hl [2, 3, 4, 5, 6] rfl)
        · have c_137 : ¬ O2 (0 : Int32).toNatClampNeg = ((nI (d + 1)) : Int32).toInt64 := fun q => c_137 ((lg_cmp_eq _ _).mpr q)
          exact absurd er c_137
    · exact absurd rfl c_120
