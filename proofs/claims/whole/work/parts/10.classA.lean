/-! throwing, and the methods of the class -/
abbrev exN : List String := ["java/lang/RuntimeException", "java/lang/Exception"]
set_option maxHeartbeats 4000000 in
theorem thr {p : Program} {l : Launch} {e : Env} {R : Room} {s : State} {m : MethodId} {args : Array Value} {below : List Frame} {meth : Method} {c : Code} {H : Heap} {locs : List Loc} {cells slots mc ms pc : Nat} {cc : ByteArray} {ls : Array Slot} {rest : List Value} {Qc : Array Value → State → Outcome → State → Prop} {XC : String → State → State → Prop} {A : Nat → Prop}
    (hx : p.tables.exec = Jvm.exec) (hb : c.code = cc) (hl0 : l.stackTraces = false) (hts : ∀ w ∈ TB, w.before args s = true) (hown : s.vm.findClass RX = some m.cls) (hE : EV A s) (hS : va_S A s.heap H locs) (hsize : ls.size = c.maxLocals) (htab : ∀ x ∈ c.exceptionTable.toList, False) (hlocks : meth.locks = false)
    {E text : String} {ik is ic sa : Nat} (hfit : Bundle.fit E = true) (kk : Cond.classLink RX ik E ∈ TB) (kz : Cond.initialized E ∈ TB) (kx : ∀ w ∈ vx_atS RX ic E exN, w ∈ TB ++ NB) (kg : ∀ w ∈ vx_atS RX ic E exN, vx_ot w = true) (hstr : vk_R RX is text sa s)
    (d0 : decode cc pc = .ok (.new ik, 3)) (d3 : decode cc (pc + 3) = .ok (.dup, 1)) (d4 : decode cc (pc + 4) = .ok (.ldc is, 2)) (d6 : decode cc (pc + 6) = .ok (.invokespecial ic, 3)) (d9 : decode cc (pc + 9) = .ok (.athrow, 1))
    (hRf : 5 < R.frames) (hRl : (rest.map fun v => v.category).sum + 82 ≤ R.locals) (hRc : cells + 1 ≤ R.cells) (hRs : slots + 6 ≤ R.slots) (hc : cells + 1 ≤ mc) (hs : slots + 6 ≤ ms)
    (hxc : ∀ t : State, s.vm.Alike t.vm → va_F A s t → (∀ q : Nat, q < H.size → t.heap[q]? = H[q]?) → XC E s t) :
    W p l e R s m args below meth c H locs cells slots (vx_MQ below Qc XC args s mc ms A) (F0 m pc ls rest) := by
  have hat : ∀ w ∈ vx_atS RX ic E exN, w.before args s = true := fun w hw => (List.mem_append.mp (kx w hw)).elim (hts w) (fun h => va_Nw.use (NB_on w h) (hE.1 w h))
  refine vx_throwS hx hb hl0 (names := exN) hown hfit (by decide +kernel) (hts _ kk) (hts _ kz) hstr hat (fun w hw => ?_) hE.2.2.2.2.2.2.1 hE.2.2.2.2.2.2.2.1 hS hsize d0 d3 d4 d6 d9 (fun x h => (htab x h).elim) hRf hRl hRc hRs hlocks (fun t hv hz hq => hxc t hv ⟨Nat.le_trans hS.1 hz, fun q h1 h2 => (hq q (Nat.lt_of_lt_of_le h1 hS.1)).trans (hS.2.1 q h1 h2)⟩ hq) hS.2.2 hc hs
  rcases List.mem_cons.mp hw with e | hw
  · rw [e]; rfl
  · rcases List.mem_cons.mp hw with e | hw
    · rw [e]; rfl
    · exact kg w hw
def okP (o p : Int32) : Prop := ∃ u v : Nat, u < 4 ∧ v < 64 ∧ o = nI u ∧ p = nI v
theorem okP_of {o p : Int32} (h1 : ¬ o < 0) (h2 : ¬ 4 ≤ o) (h3 : ¬ p < 0) (h4 : p < 64) : okP o p := by
  obtain ⟨u, hu, rfl⟩ := nI_of h1
  obtain ⟨v, hv, rfl⟩ := nI_of h3
  refine ⟨u, v, ?_, ?_, rfl, rfl⟩
  · rcases Nat.lt_or_ge u 4 with q | q
    · exact q
    · exact absurd (nI_le q hu) h2
  · rcases Nat.lt_or_ge v 64 with q | q
    · exact q
    · exact absurd h4 (nI_nlt q hv)
theorem okP_no1 {o p : Int32} (h : o < 0) : ¬ okP o p := fun ⟨u, v, hu, hv, e1, e2⟩ => nI_pos (show u < 2 ^ 31 by omega) (e1 ▸ h)
theorem okP_no2 {o p : Int32} (h : 4 ≤ o) : ¬ okP o p := fun ⟨u, v, hu, hv, e1, e2⟩ => nI_ge hu (by decide) (show nI 4 ≤ nI u from e1 ▸ h)
theorem okP_no3 {o p : Int32} (h : p < 0) : ¬ okP o p := fun ⟨u, v, hu, hv, e1, e2⟩ => nI_pos (show v < 2 ^ 31 by omega) (e2 ▸ h)
theorem okP_no4 {o p : Int32} (h : ¬ p < 64) : ¬ okP o p := fun ⟨u, v, hu, hv, e1, e2⟩ => h (by rw [e2]; exact (show nI v < nI 64 from nI_lt hv (by decide)))
abbrev rC : Room := { frames := 6, cells := 1, slots := 6, locals := 90 }
abbrev rX : Room := { frames := 8, cells := 1, slots := 6, locals := 130 }
abbrev rX0 : Room := { frames := 3, cells := 0, slots := 0, locals := 100 }
/-- what is so where an exception of that name leaves a method: nothing has changed -/
abbrev XQ (D : va_G) (E0 : String) (C : Prop) (ws : va_W) (A : Nat → Prop) : String → State → State → Prop := vx_X (fun _ : Unit => C) (fun E _ t => E = E0 ∧ va_P D wCl ws t.heap) A
theorem kept_P {D : va_G} {ws : va_W} {H : Heap} {t : State} (hP : va_P D wCl ws H) (hq : ∀ q : Nat, q < H.size → t.heap[q]? = H[q]?) : va_P D wCl ws t.heap := hP.kept (fun k q hk => hq q.1 (hP k q hk).lt)

set_option maxHeartbeats 4000000 in
set_option maxRecDepth 100000 in
theorem m_X_checkPlace (l : Launch) (hl0 : l.stackTraces = false) (D : va_G) (k : Nat → ClassId) (ws : va_W) (o1 p1 : Int32) (sz : Nat) : vx_Met l y_X_checkPlace (w_X_checkPlace :: TB) rC (va_Pc [.int o1, .int p1] (PW D k (ws) sz)) (va_Qv (fun _ : Unit => okP o1 p1) (fun _ t => va_P D wCl (ws) t.heap) (va_A (ws) sz)) (XQ D EIAE (¬ okP o1 p1) (ws) (va_A (ws) sz)) 1 6 (va_A (ws) sz) := by
  refine vx_ofW (cc := b_X_checkPlace) (maxL := 2) (ret := none) (by decide) rfl ?_
  intro p e s m args below meth c s₁ B hml htab hv
  obtain ⟨rfl, hsz, hP, hK, hD0, hE⟩ := hv
  have hx := B.exec
  have hb := B.bytes
  have hr := B.returns
  have hts0 := atoms_spec (ws := w_X_checkPlace :: TB) B.pre
  have hts := fun w (hw : w ∈ TB) => hts0 w (List.mem_cons_of_mem _ hw)
  have hown : s.vm.findClass RX = some m.cls := findClass_of_methodNamed B.named
  have hlocks := B.notSynchronized
  subst hsz
  have hD := hD0.self (sz := s.heap.size)
  generalize hAe : va_A (ws) s.heap.size = A at *
  have hA : ∀ q : Nat, s.heap.size ≤ q → A q := fun q h => by rw [← hAe]; exact Or.inr h
  have hS : va_S A s.heap s.heap [] := va_S.rf
  have hl := lv_entry ([.int o1, .int p1]) (n := 2) (Nat.le_of_ble_eq_true rfl)
  rw [lg_entry_eq]
  generalize (lg_sl ([.int o1, .int p1]) ++ List.replicate (2 - (lg_sl ([.int o1, .int p1])).length) Slot.unset).toArray = ls at hl ⊢
  have hl : lv_has ls 2 [(0, .int o1), (1, .int p1)] := hl
  refine lv_iload_n hx hb d_X_checkPlace_0 rfl (lv_at hl 0 rfl) ?_
  refine lv_if_lt (tgt := 19) hx hb d_X_checkPlace_1 (by decide) (fun c_1 => ?_) (fun c_1 => ?_)
  · obtain ⟨sa, hsa⟩ := hE.2.2.2.2.2.1
    exact thr hx hb hl0 hts hown hE hS (hl.1.trans hml.symm) htab hlocks (by decide +kernel) kk_X_86 kz_IllegalArgumentException kx_IAE kg_IAE hsa d_X_checkPlace_19 d_X_checkPlace_22 d_X_checkPlace_23 d_X_checkPlace_25 d_X_checkPlace_28 (Nat.le_of_ble_eq_true rfl) (Nat.le_of_ble_eq_true rfl) (Nat.le_of_ble_eq_true rfl) (Nat.le_of_ble_eq_true rfl) (Nat.le_of_ble_eq_true rfl) (Nat.le_of_ble_eq_true rfl) (fun t hv9 hF hq => ⟨(), okP_no1 c_1, ⟨rfl, kept_P hP hq⟩, hF⟩)
  · refine lv_iload_n hx hb d_X_checkPlace_4 rfl (lv_at hl 0 rfl) ?_
    refine lv_iconst (v := 4) hx hb d_X_checkPlace_5 (by decide) ?_
    refine lv_icmp_ge (tgt := 19) hx hb d_X_checkPlace_6 (by decide) (fun c_6 => ?_) (fun c_6 => ?_)
    · obtain ⟨sa, hsa⟩ := hE.2.2.2.2.2.1
      exact thr hx hb hl0 hts hown hE hS (hl.1.trans hml.symm) htab hlocks (by decide +kernel) kk_X_86 kz_IllegalArgumentException kx_IAE kg_IAE hsa d_X_checkPlace_19 d_X_checkPlace_22 d_X_checkPlace_23 d_X_checkPlace_25 d_X_checkPlace_28 (Nat.le_of_ble_eq_true rfl) (Nat.le_of_ble_eq_true rfl) (Nat.le_of_ble_eq_true rfl) (Nat.le_of_ble_eq_true rfl) (Nat.le_of_ble_eq_true rfl) (Nat.le_of_ble_eq_true rfl) (fun t hv9 hF hq => ⟨(), okP_no2 c_6, ⟨rfl, kept_P hP hq⟩, hF⟩)
    · refine lv_iload_n hx hb d_X_checkPlace_9 rfl (lv_at hl 1 rfl) ?_
      refine lv_if_lt (tgt := 19) hx hb d_X_checkPlace_10 (by decide) (fun c_10 => ?_) (fun c_10 => ?_)
      · obtain ⟨sa, hsa⟩ := hE.2.2.2.2.2.1
        exact thr hx hb hl0 hts hown hE hS (hl.1.trans hml.symm) htab hlocks (by decide +kernel) kk_X_86 kz_IllegalArgumentException kx_IAE kg_IAE hsa d_X_checkPlace_19 d_X_checkPlace_22 d_X_checkPlace_23 d_X_checkPlace_25 d_X_checkPlace_28 (Nat.le_of_ble_eq_true rfl) (Nat.le_of_ble_eq_true rfl) (Nat.le_of_ble_eq_true rfl) (Nat.le_of_ble_eq_true rfl) (Nat.le_of_ble_eq_true rfl) (Nat.le_of_ble_eq_true rfl) (fun t hv9 hF hq => ⟨(), okP_no3 c_10, ⟨rfl, kept_P hP hq⟩, hF⟩)
      · refine lv_iload_n hx hb d_X_checkPlace_13 rfl (lv_at hl 1 rfl) ?_
        refine lv_bipush (v := 64) hx hb d_X_checkPlace_14 (by decide) ?_
        refine lv_icmp_lt (tgt := 29) hx hb d_X_checkPlace_16 (by decide) (fun c_16 => ?_) (fun c_16 => ?_)
        · refine W.widen (k := 1) (n := 6) (by omega) (by omega) ?_
          refine vx_ret ?_
          exact W.vret hx hb hr (fun t ht hW => ⟨⟨(), rfl, okP_of c_1 c_6 c_10 c_16, atP hP ht⟩, hS.F ht⟩) hS.2.2 d_X_checkPlace_29
        · obtain ⟨sa, hsa⟩ := hE.2.2.2.2.2.1
          exact thr hx hb hl0 hts hown hE hS (hl.1.trans hml.symm) htab hlocks (by decide +kernel) kk_X_86 kz_IllegalArgumentException kx_IAE kg_IAE hsa d_X_checkPlace_19 d_X_checkPlace_22 d_X_checkPlace_23 d_X_checkPlace_25 d_X_checkPlace_28 (Nat.le_of_ble_eq_true rfl) (Nat.le_of_ble_eq_true rfl) (Nat.le_of_ble_eq_true rfl) (Nat.le_of_ble_eq_true rfl) (Nat.le_of_ble_eq_true rfl) (Nat.le_of_ble_eq_true rfl) (fun t hv9 hF hq => ⟨(), okP_no4 c_16, ⟨rfl, kept_P hP hq⟩, hF⟩)
set_option maxHeartbeats 4000000 in
set_option maxRecDepth 100000 in
theorem m_X_load (l : Launch) (hl0 : l.stackTraces = false) (D : va_G) (k : Nat → ClassId) (a : Nat → Nat) (d : Nat) (hd : d ≤ 30) (F : Nat → Int64) (V M : Nat → Nat → Int64) (R : Nat → Int32) (o1 p1 : Int32) (sz : Nat) : vx_Met l y_X_load (w_X_load :: TB) rX (va_Pc [.ref (a 0), .int o1, .int p1] (PW D k (WX k a (nI d) F V M R) sz)) (va_Qi (fun (r : Int32) (M2 : Nat → Nat → Int64) => ∃ u v : Nat, u < 4 ∧ v < 64 ∧ o1 = nI u ∧ p1 = nI v ∧ r = (if tb (M d u) v then 100 else 2100) ∧ M2 = va_up M d (vp_updL (M d) u (tbs (M d u) v))) (fun M2 t => va_P D wCl (WX k a (nI d) F V M2 R) t.heap) (va_A (WX k a (nI d) F V M R) sz)) (XQ D EIAE (¬ okP o1 p1) (WX k a (nI d) F V M R) (va_A (WX k a (nI d) F V M R) sz)) 1 6 (va_A (WX k a (nI d) F V M R) sz) := by
  refine vx_ofW (cc := b_X_load) (maxL := 5) (ret := some .int) (by decide) rfl ?_
  intro p e s m args below meth c s₁ B hml htab hv
  obtain ⟨rfl, hsz, hP, hK, hD0, hE⟩ := hv
  have hx := B.exec
  have hb := B.bytes
  have hr := B.returns
  have hts0 := atoms_spec (ws := w_X_load :: TB) B.pre
  have hts := fun w (hw : w ∈ TB) => hts0 w (List.mem_cons_of_mem _ hw)
  have hown : s.vm.findClass RX = some m.cls := findClass_of_methodNamed B.named
  have hlocks := B.notSynchronized
  subst hsz
  have hD := hD0.self (sz := s.heap.size)
  generalize hAe : va_A (WX k a (nI d) F V M R) s.heap.size = A at *
  have hA : ∀ q : Nat, s.heap.size ≤ q → A q := fun q h => by rw [← hAe]; exact Or.inr h
  have hS : va_S A s.heap s.heap [] := va_S.rf
  have hl := lv_entry ([.ref (a 0), .int o1, .int p1]) (n := 5) (Nat.le_of_ble_eq_true rfl)
  rw [lg_entry_eq]
  generalize (lg_sl ([.ref (a 0), .int o1, .int p1]) ++ List.replicate (5 - (lg_sl ([.ref (a 0), .int o1, .int p1])).length) Slot.unset).toArray = ls at hl ⊢
  have hl : lv_has ls 5 [(0, .ref (a 0)), (1, .int o1), (2, .int p1)] := hl
  have hd31 : d < 31 := by omega
  refine lv_iload_n hx hb d_X_load_0 rfl (lv_at hl 1 rfl) ?_
  refine lv_iload_n hx hb d_X_load_1 rfl (lv_at hl 2 rfl) ?_
  refine vx_callv (vx_runS (As := [.int o1, .int p1]) (rest := []) ⟨hx, hb, hml, hown, hts⟩ (m_X_checkPlace l hl0 D k (WX k a (nI d) F V M R) o1 p1 _) (va_cwS 2 hts (TB_g3 kl_X_56 kt_X_checkPlace kz_X (TB_c kc_X_checkPlace)) rfl rfl rfl (by decide +kernel) ⟨Nat.le_of_ble_eq_true rfl, Nat.le_of_ble_eq_true rfl⟩) ⟨PW.bl, fun U hU hW => ⟨rfl, PW.go hK hP hD hS hA hE hU hW⟩⟩ rfl rfl hl.1 rfl (lv_room (Nat.le_of_ble_eq_true rfl)) d_X_load_2 ⟨Nat.le_of_ble_eq_true rfl, Nat.le_of_ble_eq_true rfl⟩) hS (fun q _ h => cut_F hD hS hA q h) (cut_F hD hS hA) (fun q _ h => cut_F hD hS hA q h) (fun E ce q9 u t H1 locs1 ht hvm px hBX hz hk hS hcell hv9 hcl => ?_) (fun u t H1 locs1 ht hvm hpost hB hz hk hS => ?_)
  · obtain ⟨rfl, hB⟩ := hBX
    have hB : va_P D wCl (WX k a (nI d) F V M R) H1 := by rw [← ht]; exact hB
    exact vx_out (fun x h => (htab x h).elim) hlocks hcell hv9 hcl (fun t ht hvm => ⟨(), px, ⟨rfl, atP hB ht⟩, hS.F ht⟩) hS.2.2 (Nat.le_refl _) (Nat.le_refl _)
  rw [ht] at hB
  have hP := hB
  generalize H1 = H at hP hS ⊢
  generalize locs1 = locs at hS ⊢
  obtain ⟨u1, v1, hu, hv, rfl, rfl⟩ := hpost
  refine lv_aload_n hx hb d_X_load_5 rfl (lv_at hl 0 rfl) ?_
  refine va_get (D := D) (ci := 1) (v := .ref (a 2)) (C := RX) (T := TX) (N := 3) hx hb hts kin_X hown hK hP 0 rfl rfl 1 (by decide) (hts _ kf_X_15) (fun _ h9 => h9) rfl d_X_load_6 ?_
  refine lv_aload_n hx hb d_X_load_9 rfl (lv_at hl 0 rfl) ?_
  refine va_get (D := D) (ci := 1) (v := .int (nI d)) (C := RX) (T := TX) (N := 3) hx hb hts kin_X hown hK hP 0 rfl rfl 2 (by decide) (hts _ kf_X_19) (fun _ h9 => h9) rfl d_X_load_10 ?_
  refine va_aldq hx hb hK hP 2 1 rfl rfl (vp_in_nI hd31 (by decide)) d_X_load_13 ?_
  rw [show ((nI d) : Int32).toNatClampNeg = d from nI_clamp (by omega)]
  refine W.eq (g2 := F0 m 14 ls [.ref (a (3 + d))]) rfl ?_
  refine lv_astore_n (lv' := [(3, .ref (a (3 + d))), (0, .ref (a 0)), (1, .int (nI u1)), (2, .int (nI v1))]) hx hb d_X_load_14 rfl hl (by decide) rfl (fun ls hl => ?_)
  refine lv_aload_n hx hb d_X_load_15 rfl (lv_at hl 0 rfl) ?_
  refine lv_iload_n hx hb d_X_load_16 rfl (lv_at hl 2 rfl) ?_
  refine lv_iload_n hx hb d_X_load_17 rfl (lv_at hl 3 rfl) ?_
  refine vp_callSi (va_runVN (As := [.int (nI u1), .int (nI v1)]) (rest := []) (C := RS) (host := RX) ⟨hx, hb, hml, hown, hts⟩ (m_S_isMarked l D k a (nI d) F V M R d hd31 u1 v1 hu hv _) ⟨va_cnB 2 hts (TB_c kc_S_isMarked) rfl rfl rfl (hE.1 _ nl_X_60) (hts _ kz_S) (by decide +kernel) ⟨Nat.le_of_ble_eq_true rfl, Nat.le_of_ble_eq_true rfl⟩, hts _ ki_S_isMarked, hts _ ks_S_isMarked⟩ ⟨PW.bl, va_recv (q := (RS, TS, 3)) hK hP rfl (wx_s hd31), fun U hU hW => ⟨rfl, PW.go hK hP hD hS hA hE hU hW⟩⟩ rfl rfl hl.1 rfl (lv_room (Nat.le_of_ble_eq_true rfl)) d_X_load_18 ⟨Nat.le_of_ble_eq_true rfl, Nat.le_of_ble_eq_true rfl⟩).run (fun r1 hr1 => ?_)
  refine lv_if_eq (tgt := 29) hx hb d_X_load_21 (by decide) (fun c_21 => ?_) (fun c_21 => ?_)
  · refine lv_sipush (v := 2100) hx hb d_X_load_29 (by decide) ?_
    refine lv_istore (lv' := [(4, .int 2100), (3, .ref (a (3 + d))), (0, .ref (a 0)), (1, .int (nI u1)), (2, .int (nI v1))]) hx hb d_X_load_32 hl (by decide) rfl (fun ls hl => ?_)
    refine lv_aload_n hx hb d_X_load_34 rfl (lv_at hl 1 rfl) ?_
    refine lv_iload_n hx hb d_X_load_35 rfl (lv_at hl 3 rfl) ?_
    refine lv_iload_n hx hb d_X_load_36 rfl (lv_at hl 4 rfl) ?_
    refine va_callv (va_runVN (As := [.int (nI u1), .int (nI v1)]) (rest := []) (C := RS) (host := RX) ⟨hx, hb, hml, hown, hts⟩ (m_S_mark l D k a (nI d) F V M R d hd31 u1 v1 hu hv _) ⟨va_cnB 2 hts (TB_c kc_S_mark) rfl rfl rfl (hE.1 _ nl_X_64) (hts _ kz_S) (by decide +kernel) ⟨Nat.le_of_ble_eq_true rfl, Nat.le_of_ble_eq_true rfl⟩, hts _ ki_S_mark, hts _ ks_S_mark⟩ ⟨PW.bl, va_recv (q := (RS, TS, 3)) hK hP rfl (wx_s hd31), fun U hU hW => ⟨rfl, PW.go hK hP hD hS hA hE hU hW⟩⟩ rfl rfl hl.1 rfl (lv_room (Nat.le_of_ble_eq_true rfl)) d_X_load_37 ⟨Nat.le_of_ble_eq_true rfl, Nat.le_of_ble_eq_true rfl⟩) hS (fun q _ h => cut_F hD hS hA q h) (cut_F hD hS hA) (fun uu t H1 locs1 ht hvm hpost hB hz hk hS => ?_)
    rw [ht] at hB
    subst hpost
    have hP := hB
    have hD := hD.ad (wx_ad : (WX k a (nI d) F V (va_up M d (vp_updL (M d) u1 (tbs (M d u1) v1))) R).map Prod.fst = _)
    generalize H1 = H at hP hS ⊢
    generalize locs1 = locs at hS ⊢
    refine lv_iload hx hb d_X_load_40 (lv_at hl 0 rfl) ?_
    have er : (2100 : Int32) = (if tb (M d u1) v1 then 100 else 2100) := by
      rw [hr1] at c_21
      cases hq : tb (M d u1) v1 <;> rw [hq] at c_21 <;> first | rfl | exact absurd rfl c_21 | exact absurd c_21 (by decide)
    refine vx_ret ?_
    exact W.iret (v := 2100) hx hb hr (fun t ht hW => ⟨⟨_, va_up M d (vp_updL (M d) u1 (tbs (M d u1) v1)), rfl, ⟨u1, v1, hu, hv, rfl, rfl, er, rfl⟩, atP hP ht⟩, hS.F ht⟩) hS.2.2 d_X_load_42
  · refine lv_bipush (v := 100) hx hb d_X_load_24 (by decide) ?_
    refine lv_goto (tgt := 32) hx hb d_X_load_26 (by decide) ?_
    refine lv_istore (lv' := [(4, .int 100), (3, .ref (a (3 + d))), (0, .ref (a 0)), (1, .int (nI u1)), (2, .int (nI v1))]) hx hb d_X_load_32 hl (by decide) rfl (fun ls hl => ?_)
    refine lv_aload_n hx hb d_X_load_34 rfl (lv_at hl 1 rfl) ?_
    refine lv_iload_n hx hb d_X_load_35 rfl (lv_at hl 3 rfl) ?_
    refine lv_iload_n hx hb d_X_load_36 rfl (lv_at hl 4 rfl) ?_
    refine va_callv (va_runVN (As := [.int (nI u1), .int (nI v1)]) (rest := []) (C := RS) (host := RX) ⟨hx, hb, hml, hown, hts⟩ (m_S_mark l D k a (nI d) F V M R d hd31 u1 v1 hu hv _) ⟨va_cnB 2 hts (TB_c kc_S_mark) rfl rfl rfl (hE.1 _ nl_X_64) (hts _ kz_S) (by decide +kernel) ⟨Nat.le_of_ble_eq_true rfl, Nat.le_of_ble_eq_true rfl⟩, hts _ ki_S_mark, hts _ ks_S_mark⟩ ⟨PW.bl, va_recv (q := (RS, TS, 3)) hK hP rfl (wx_s hd31), fun U hU hW => ⟨rfl, PW.go hK hP hD hS hA hE hU hW⟩⟩ rfl rfl hl.1 rfl (lv_room (Nat.le_of_ble_eq_true rfl)) d_X_load_37 ⟨Nat.le_of_ble_eq_true rfl, Nat.le_of_ble_eq_true rfl⟩) hS (fun q _ h => cut_F hD hS hA q h) (cut_F hD hS hA) (fun uu t H1 locs1 ht hvm hpost hB hz hk hS => ?_)
    rw [ht] at hB
    subst hpost
    have hP := hB
    have hD := hD.ad (wx_ad : (WX k a (nI d) F V (va_up M d (vp_updL (M d) u1 (tbs (M d u1) v1))) R).map Prod.fst = _)
    generalize H1 = H at hP hS ⊢
    generalize locs1 = locs at hS ⊢
    refine lv_iload hx hb d_X_load_40 (lv_at hl 0 rfl) ?_
    have er : (100 : Int32) = (if tb (M d u1) v1 then 100 else 2100) := by
      rw [hr1] at c_21
      cases hq : tb (M d u1) v1 <;> rw [hq] at c_21 <;> first | rfl | exact absurd rfl c_21 | exact absurd c_21 (by decide)
    refine vx_ret ?_
    exact W.iret (v := 100) hx hb hr (fun t ht hW => ⟨⟨_, va_up M d (vp_updL (M d) u1 (tbs (M d u1) v1)), rfl, ⟨u1, v1, hu, hv, rfl, rfl, er, rfl⟩, atP hP ht⟩, hS.F ht⟩) hS.2.2 d_X_load_42
