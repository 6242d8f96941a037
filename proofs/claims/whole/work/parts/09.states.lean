/-! the methods of one state -/
/-- bit p of x -/
def tb (x : Int64) (p : Nat) : Bool := x.toBitVec.getLsbD p
def tbs (x : Int64) (p : Nat) : Int64 := x ||| ((1 : Int64) <<< ((nI p).toInt64 &&& 63))
theorem tb_iff (x : Int64) {p : Nat} (hp : p < 64) : ((x.toUInt64 >>> ((nI p).toInt64.toUInt64 &&& Int64.toUInt64 63)).toInt64 &&& 1) = 0 ↔ tb x p = false :=
  ts_bit hp (by rw [wb_cu p hp]; exact (UInt64.toNat_ofNat_of_lt (by show p < 18446744073709551616; omega)))
theorem tb_set (x : Int64) {p q : Nat} (hp : p < 64) (hq : q < 64) : tb (tbs x p) q = (tb x q || decide (q = p)) := by
  have h1 : ((1 : Int64) <<< ((nI p).toInt64 &&& 63)) = lN (1 * 2 ^ p) := wb_shl 1 hp
  unfold tb tbs
  rw [h1, Int64.toBitVec_or, BitVec.getLsbD_or, Nat.one_mul, wb_tb]
  congr 1
  rw [BitVec.getLsbD_ofNat, Nat.testBit_two_pow, decide_eq_true hq, Bool.true_and]
  by_cases h : p = q
  · rw [decide_eq_true h, decide_eq_true h.symm]
  · rw [decide_eq_false h, decide_eq_false (fun q => h q.symm)]
theorem atP {D : va_G} {ws : va_W} {H : Heap} {t : State} (h : va_P D wCl ws H) (ht : t.heap = H) : va_P D wCl ws t.heap := by rw [ht]; exact h
/-- how many of the first n are not 0 -/
def cnt (f : Nat → Int64) : Nat → Nat
  | 0 => 0
  | n + 1 => cnt f n + (if f n = 0 then 0 else 1)
/-- how many bits the first n words have -/
def bsum (f : Nat → Int64) : Nat → Nat
  | 0 => 0
  | n + 1 => bsum f n + pz_n (f n).toBitVec.toNat 64

theorem up_id {α : Type} (f : Nat → α) (i : Nat) : va_up f i (f i) = f := by
  funext j
  by_cases h : j = i <;> simp [va_up, h]
set_option maxHeartbeats 4000000 in
set_option maxRecDepth 100000 in
/-- whether the place is marked -/
theorem m_S_isMarked (l : Launch) (D : va_G) (k : Nat → ClassId) (a : Nat → Nat) (d : Int32) (F : Nat → Int64) (V M : Nat → Nat → Int64) (R : Nat → Int32) (i : Nat) (hi : i < 31) (u v : Nat) (hu : u < 4) (hv : v < 64) (sz : Nat) : Met l y_S_isMarked (w_S_isMarked :: TB) rA1 (va_Pc [.ref (a (3 + i)), .int (nI u), .int (nI v)] (PW D k (WX k a d F V M R) sz)) (vp_Si (fun r => r = if tb (M i u) v then 1 else 0)) 0 0 (fun _ => False) := by
  refine Met.ofW (cc := b_S_isMarked) (maxL := 3) (ret := some .boolean) (by decide) rfl ?_
  intro p e s m args below meth c s₁ B hml hv
  obtain ⟨rfl, hsz, hP, hK, hD0, hE⟩ := hv
  have hx := B.exec
  have hb := B.bytes
  have hr := B.returns
  have hts0 := atoms_spec (ws := w_S_isMarked :: TB) B.pre
  have hts := fun w (hw : w ∈ TB) => hts0 w (List.mem_cons_of_mem _ hw)
  have hown : s.vm.findClass RS = some m.cls := findClass_of_methodNamed B.named
  have hlocks := B.notSynchronized
  subst hsz
  have hD := hD0.self (sz := s.heap.size)
  generalize hAe : va_A (WX k a d F V M R) s.heap.size = A at *
  have hA : ∀ q : Nat, s.heap.size ≤ q → A q := fun q h => by rw [← hAe]; exact Or.inr h
  have hS : va_S A s.heap s.heap [] := va_S.rf
  have hl := lv_entry ([.ref (a (3 + i)), .int (nI u), .int (nI v)]) (n := 3) (Nat.le_of_ble_eq_true rfl)
  rw [lg_entry_eq]
  generalize (lg_sl ([.ref (a (3 + i)), .int (nI u), .int (nI v)]) ++ List.replicate (3 - (lg_sl ([.ref (a (3 + i)), .int (nI u), .int (nI v)])).length) Slot.unset).toArray = ls at hl ⊢
  have hl : lv_has ls 3 [(0, .ref (a (3 + i))), (1, .int (nI u)), (2, .int (nI v))] := hl
  refine lv_aload_n hx hb d_S_isMarked_0 rfl (lv_at hl 0 rfl) ?_
  refine va_get (D := D) (ci := 0) (v := .ref (a (65 + i))) (C := RS) (T := TS) (N := 3) hx hb hts kin_S hown hK hP (i + 3) (wx_s hi) rfl 1 (by decide) (hts _ kf_S_15) (fun _ h9 => h9) rfl d_S_isMarked_1 ?_
  refine lv_iload_n hx hb d_S_isMarked_4 rfl (lv_at hl 1 rfl) ?_
  refine va_lald hx hb hK hP (i + 65) 0 (wx_m hi) rfl (vp_in_nI hu (by decide)) d_S_isMarked_5 ?_
  rw [nI_clamp (show u < 2 ^ 31 by omega)]
  refine lv_iload_n hx hb d_S_isMarked_6 rfl (lv_at hl 2 rfl) ?_
  refine lv_lushr hx hb d_S_isMarked_7 rfl ?_
  refine lv_lconst (v := 1) hx hb d_S_isMarked_8 (by decide) ?_
  refine lv_land hx hb d_S_isMarked_9 ?_
  refine lv_lconst (v := 0) hx hb d_S_isMarked_10 (by decide) ?_
  refine W.lcmp hx hb d_S_isMarked_11 ?_
  refine lv_if_eq (tgt := 19) hx hb d_S_isMarked_12 (by decide) (fun c_12 => ?_) (fun c_12 => ?_)
  · have c_12 : ((((M i u) : Int64).toUInt64 >>> (((nI v) : Int32).toInt64.toUInt64 &&& Int64.toUInt64 63)).toInt64) &&& (1) = 0 := (lg_cmp_eq _ _).mp c_12
    refine lv_iconst (v := 0) hx hb d_S_isMarked_19 (by decide) ?_
    exact W.zret (v := 0) hx hb hr rfl (fun t ht hW => ⟨_, rfl, by rw [(tb_iff _ hv).mp c_12]; rfl, ht⟩) (fun _ h => absurd h List.not_mem_nil) d_S_isMarked_20
  · have c_12 : ¬ ((((M i u) : Int64).toUInt64 >>> (((nI v) : Int32).toInt64.toUInt64 &&& Int64.toUInt64 63)).toInt64) &&& (1) = 0 := fun q => c_12 ((lg_cmp_eq _ _).mpr q)
    refine lv_iconst (v := 1) hx hb d_S_isMarked_15 (by decide) ?_
    refine lv_goto (tgt := 20) hx hb d_S_isMarked_16 (by decide) ?_
    exact W.zret (v := 1) hx hb hr rfl (fun t ht hW => ⟨_, rfl, by rw [if_pos (by cases h : tb (M i u) v with | true => rfl | false => exact absurd ((tb_iff _ hv).mpr h) c_12)], ht⟩) (fun _ h => absurd h List.not_mem_nil) d_S_isMarked_20
set_option maxHeartbeats 4000000 in
set_option maxRecDepth 100000 in
/-- the place is marked -/
theorem m_S_mark (l : Launch) (D : va_G) (k : Nat → ClassId) (a : Nat → Nat) (d : Int32) (F : Nat → Int64) (V M : Nat → Nat → Int64) (R : Nat → Int32) (i : Nat) (hi : i < 31) (u v : Nat) (hu : u < 4) (hv : v < 64) (sz : Nat) : Met l y_S_mark (w_S_mark :: TB) rA1 (va_Pc [.ref (a (3 + i)), .int (nI u), .int (nI v)] (PW D k (WX k a d F V M R) sz)) (va_Qv (fun M2 : Nat → Nat → Int64 => M2 = va_up M i (vp_updL (M i) u (tbs (M i u) v))) (fun M2 t => va_P D wCl (WX k a d F V M2 R) t.heap) (va_A (WX k a d F V M R) sz)) 0 0 (va_A (WX k a d F V M R) sz) := by
  refine Met.ofW (cc := b_S_mark) (maxL := 3) (ret := none) (by decide) rfl ?_
  intro p e s m args below meth c s₁ B hml hv
  obtain ⟨rfl, hsz, hP, hK, hD0, hE⟩ := hv
  have hx := B.exec
  have hb := B.bytes
  have hr := B.returns
  have hts0 := atoms_spec (ws := w_S_mark :: TB) B.pre
  have hts := fun w (hw : w ∈ TB) => hts0 w (List.mem_cons_of_mem _ hw)
  have hown : s.vm.findClass RS = some m.cls := findClass_of_methodNamed B.named
  have hlocks := B.notSynchronized
  subst hsz
  have hD := hD0.self (sz := s.heap.size)
  generalize hAe : va_A (WX k a d F V M R) s.heap.size = A at *
  have hA : ∀ q : Nat, s.heap.size ≤ q → A q := fun q h => by rw [← hAe]; exact Or.inr h
  have hS : va_S A s.heap s.heap [] := va_S.rf
  have hl := lv_entry ([.ref (a (3 + i)), .int (nI u), .int (nI v)]) (n := 3) (Nat.le_of_ble_eq_true rfl)
  rw [lg_entry_eq]
  generalize (lg_sl ([.ref (a (3 + i)), .int (nI u), .int (nI v)]) ++ List.replicate (3 - (lg_sl ([.ref (a (3 + i)), .int (nI u), .int (nI v)])).length) Slot.unset).toArray = ls at hl ⊢
  have hl : lv_has ls 3 [(0, .ref (a (3 + i))), (1, .int (nI u)), (2, .int (nI v))] := hl
  refine lv_aload_n hx hb d_S_mark_0 rfl (lv_at hl 0 rfl) ?_
  refine va_get (D := D) (ci := 0) (v := .ref (a (65 + i))) (C := RS) (T := TS) (N := 3) hx hb hts kin_S hown hK hP (i + 3) (wx_s hi) rfl 1 (by decide) (hts _ kf_S_15) (fun _ h9 => h9) rfl d_S_mark_1 ?_
  refine lv_iload_n hx hb d_S_mark_4 rfl (lv_at hl 1 rfl) ?_
  refine lv_dup2_11 hx hb d_S_mark_5 rfl rfl ?_
  refine va_lald hx hb hK hP (i + 65) 0 (wx_m hi) rfl (vp_in_nI hu (by decide)) d_S_mark_6 ?_
  refine lv_lconst (v := 1) hx hb d_S_mark_7 (by decide) ?_
  refine lv_iload_n hx hb d_S_mark_8 rfl (lv_at hl 2 rfl) ?_
  refine lv_lshl hx hb d_S_mark_9 rfl ?_
  refine lv_lor hx hb d_S_mark_10 ?_
  refine va_last hx hb hK hP hD hS (i + 65) 0 (wx_m hi) rfl (vp_in_nI hu (by decide)) d_S_mark_11 (fun H locs hP hD hS => ?_)
  have hP := (congrArg (fun w => va_P D wCl w H) (wx_setM hi)).mp hP
  have hD := (congrArg (fun w => va_D A w) (wx_setM hi)).mp hD
  have hP : va_P D wCl (WX k a d F V (va_up M i (vp_updL (M i) ((nI u).toNatClampNeg) ((M i (nI u).toNatClampNeg) ||| ((1) <<< (((nI v) : Int32).toInt64 &&& 63))))) R) H := hP
  have hD : va_D A (WX k a d F V (va_up M i (vp_updL (M i) ((nI u).toNatClampNeg) ((M i (nI u).toNatClampNeg) ||| ((1) <<< (((nI v) : Int32).toInt64 &&& 63))))) R) := hD
  rw [nI_clamp (show u < 2 ^ 31 by omega)] at hP
  exact W.vret hx hb hr (fun t ht hW => ⟨⟨va_up M i (vp_updL (M i) u (tbs (M i u) v)), rfl, rfl, atP hP ht⟩, hS.F ht⟩) hS.2.2 d_S_mark_12
set_option maxHeartbeats 4000000 in
set_option maxRecDepth 100000 in
theorem m_S_filledPlaces (l : Launch) (D : va_G) (k : Nat → ClassId) (a : Nat → Nat) (d : Int32) (F : Nat → Int64) (V M : Nat → Nat → Int64) (R : Nat → Int32) (i : Nat) (hi : i < 31) (sz : Nat) : Met l y_S_filledPlaces (w_S_filledPlaces :: TB) rA1 (va_Pc [.ref (a (3 + i))] (PW D k (WX k a d F V M R) sz)) (vp_Si (fun r => r = nI (cnt (V i) 256))) 0 0 (fun _ => False) := by
  refine Met.ofW (cc := b_S_filledPlaces) (maxL := 3) (ret := some .int) (by decide) rfl ?_
  intro p e s m args below meth c s₁ B hml hv
  obtain ⟨rfl, hsz, hP, hK, hD0, hE⟩ := hv
  have hx := B.exec
  have hb := B.bytes
  have hr := B.returns
  have hts0 := atoms_spec (ws := w_S_filledPlaces :: TB) B.pre
  have hts := fun w (hw : w ∈ TB) => hts0 w (List.mem_cons_of_mem _ hw)
  have hown : s.vm.findClass RS = some m.cls := findClass_of_methodNamed B.named
  have hlocks := B.notSynchronized
  subst hsz
  have hD := hD0.self (sz := s.heap.size)
  generalize hAe : va_A (WX k a d F V M R) s.heap.size = A at *
  have hA : ∀ q : Nat, s.heap.size ≤ q → A q := fun q h => by rw [← hAe]; exact Or.inr h
  have hS : va_S A s.heap s.heap [] := va_S.rf
  have hl := lv_entry ([.ref (a (3 + i))]) (n := 3) (Nat.le_of_ble_eq_true rfl)
  rw [lg_entry_eq]
  generalize (lg_sl ([.ref (a (3 + i))]) ++ List.replicate (3 - (lg_sl ([.ref (a (3 + i))])).length) Slot.unset).toArray = ls at hl ⊢
  have hl : lv_has ls 3 [(0, .ref (a (3 + i)))] := hl
  refine lv_iconst (v := 0) hx hb d_S_filledPlaces_0 (by decide) ?_
  refine lv_istore_n (lv' := [(1, .int 0), (0, .ref (a (3 + i)))]) hx hb d_S_filledPlaces_1 rfl hl (by decide) rfl (fun ls hl => ?_)
  refine lv_iconst (v := 0) hx hb d_S_filledPlaces_2 (by decide) ?_
  refine lv_istore_n (lv' := [(2, .int 0), (1, .int 0), (0, .ref (a (3 + i)))]) hx hb d_S_filledPlaces_3 rfl hl (by decide) rfl (fun ls hl => ?_)
  generalize hRR : (headSpec (w_S_filledPlaces :: TB) rA1).room = RR
  generalize hQQ : MQ below (vp_Si (fun r => r = nI (cnt (V i) 256))) [.ref (a (3 + i))].toArray s 0 0 (fun _ => False) = QQ
  have loop : ∀ (n j : Nat), j ≤ 256 → 257 ≤ j + n → ∀ (ls : Array Slot), lv_has ls 3 [(1, .int (nI (cnt (V i) j))), (2, .int (nI j)), (0, .ref (a (3 + i)))] → W p l e RR s m [.ref (a (3 + i))].toArray below meth c s.heap [] 0 0 QQ (F0 m 4 ls []) := by
    intro n
    induction n with
    | zero =>
      intro j h1 h2
      exact absurd h2 (by omega)
    | succ n ih =>
      intro j hj hjn ls hl
      refine lv_iload_n hx hb d_S_filledPlaces_4 rfl (lv_at hl 1 rfl) ?_
      refine lv_sipush (v := 256) hx hb d_S_filledPlaces_5 (by decide) ?_
      refine lv_icmp_ge (tgt := 31) hx hb d_S_filledPlaces_8 (by decide) (fun c_8 => ?_) (fun c_8 => ?_)
      · have hj : j = 256 := by
          rcases Nat.lt_or_ge j 256 with q | q
          · exact absurd c_8 (nI_ge q (by decide))
          · omega
        subst hj
        refine lv_iload_n hx hb d_S_filledPlaces_31 rfl (lv_at hl 0 rfl) ?_
        subst hQQ
        exact W.iret (v := nI (cnt (V i) 256)) hx hb hr (fun t ht hW => ⟨_, rfl, rfl, ht⟩) (fun _ h => absurd h List.not_mem_nil) d_S_filledPlaces_32
      · have hlt : j < 256 := by
          rcases Nat.lt_or_ge j 256 with q | q
          · exact q
          · exact absurd (nI_le q (by omega)) c_8
        refine lv_aload_n hx hb d_S_filledPlaces_11 rfl (lv_at hl 2 rfl) ?_
        refine va_get (D := D) (ci := 0) (v := .ref (a (34 + i))) (C := RS) (T := TS) (N := 3) hx hb hts kin_S hown hK hP (i + 3) (wx_s hi) rfl 0 (by decide) (hts _ kf_S_9) (fun _ h9 => h9) rfl d_S_filledPlaces_12 ?_
        refine lv_iload_n hx hb d_S_filledPlaces_15 rfl (lv_at hl 1 rfl) ?_
        refine va_lald hx hb hK hP (i + 34) 0 (wx_v hi) rfl (vp_in_nI hlt (by decide)) d_S_filledPlaces_16 ?_
        rw [nI_clamp (show j < 2 ^ 31 by omega)]
        refine lv_lconst (v := 0) hx hb d_S_filledPlaces_17 (by decide) ?_
        refine W.lcmp hx hb d_S_filledPlaces_18 ?_
        refine lv_if_eq (tgt := 25) hx hb d_S_filledPlaces_19 (by decide) (fun c_19 => ?_) (fun c_19 => ?_)
        · have c_19 : V i j = 0 := (lg_cmp_eq _ _).mp c_19
          refine lv_iinc (v := (nI j) + 1) (lv' := [(2, .int ((nI j) + 1)), (1, .int (nI (cnt (V i) j))), (0, .ref (a (3 + i)))]) hx hb d_S_filledPlaces_25 hl (k := 1) rfl rfl (by decide) rfl (fun ls hl => ?_)
          refine lv_goto (tgt := 4) hx hb d_S_filledPlaces_28 (by decide) ?_
          refine ih (j + 1) hlt (by omega) ls ?_
          have e1 := show nI (cnt (V i) j) = nI (cnt (V i) (j + 1)) by simp only [cnt, if_pos c_19, Nat.add_zero]
          rw [← e1, ← nI_1 j]
          exact lv_sub hl [1, 0, 2] rfl
        · have c_19 : ¬ V i j = 0 := fun q => c_19 ((lg_cmp_eq _ _).mpr q)
          refine lv_iinc (v := (nI (cnt (V i) j)) + 1) (lv' := [(1, .int ((nI (cnt (V i) j)) + 1)), (2, .int (nI j)), (0, .ref (a (3 + i)))]) hx hb d_S_filledPlaces_22 hl (k := 0) rfl rfl (by decide) rfl (fun ls hl => ?_)
          refine lv_iinc (v := (nI j) + 1) (lv' := [(2, .int ((nI j) + 1)), (1, .int ((nI (cnt (V i) j)) + 1)), (0, .ref (a (3 + i)))]) hx hb d_S_filledPlaces_25 hl (k := 1) rfl rfl (by decide) rfl (fun ls hl => ?_)
          refine lv_goto (tgt := 4) hx hb d_S_filledPlaces_28 (by decide) ?_
          refine ih (j + 1) hlt (by omega) ls ?_
          have e1 := show nI (cnt (V i) j) + 1 = nI (cnt (V i) (j + 1)) by simp only [cnt, if_neg c_19]; exact nI_1 _
          rw [← e1, ← nI_1 j]
          exact lv_sub hl [1, 0, 2] rfl
  exact loop 257 0 (by omega) (by omega) ls (lv_sub hl [1, 0, 2] rfl)
set_option maxHeartbeats 4000000 in
set_option maxRecDepth 100000 in
theorem m_S_markedPlaces (l : Launch) (D : va_G) (k : Nat → ClassId) (a : Nat → Nat) (d : Int32) (F : Nat → Int64) (V M : Nat → Nat → Int64) (R : Nat → Int32) (i : Nat) (hi : i < 31) (sz : Nat) : Met l y_S_markedPlaces (w_S_markedPlaces :: TB) rA1 (va_Pc [.ref (a (3 + i))] (PW D k (WX k a d F V M R) sz)) (vp_Si (fun r => r = nI (bsum (M i) 4))) 0 0 (fun _ => False) := by
  refine Met.ofW (cc := b_S_markedPlaces) (maxL := 3) (ret := some .int) (by decide) rfl ?_
  intro p e s m args below meth c s₁ B hml hv
  obtain ⟨rfl, hsz, hP, hK, hD0, hE⟩ := hv
  have hx := B.exec
  have hb := B.bytes
  have hr := B.returns
  have hts0 := atoms_spec (ws := w_S_markedPlaces :: TB) B.pre
  have hts := fun w (hw : w ∈ TB) => hts0 w (List.mem_cons_of_mem _ hw)
  have hown : s.vm.findClass RS = some m.cls := findClass_of_methodNamed B.named
  have hlocks := B.notSynchronized
  subst hsz
  have hD := hD0.self (sz := s.heap.size)
  generalize hAe : va_A (WX k a d F V M R) s.heap.size = A at *
  have hA : ∀ q : Nat, s.heap.size ≤ q → A q := fun q h => by rw [← hAe]; exact Or.inr h
  have hS : va_S A s.heap s.heap [] := va_S.rf
  have hl := lv_entry ([.ref (a (3 + i))]) (n := 3) (Nat.le_of_ble_eq_true rfl)
  rw [lg_entry_eq]
  generalize (lg_sl ([.ref (a (3 + i))]) ++ List.replicate (3 - (lg_sl ([.ref (a (3 + i))])).length) Slot.unset).toArray = ls at hl ⊢
  have hl : lv_has ls 3 [(0, .ref (a (3 + i)))] := hl
  refine lv_iconst (v := 0) hx hb d_S_markedPlaces_0 (by decide) ?_
  refine lv_istore_n (lv' := [(1, .int 0), (0, .ref (a (3 + i)))]) hx hb d_S_markedPlaces_1 rfl hl (by decide) rfl (fun ls hl => ?_)
  refine lv_iconst (v := 0) hx hb d_S_markedPlaces_2 (by decide) ?_
  refine lv_istore_n (lv' := [(2, .int 0), (1, .int 0), (0, .ref (a (3 + i)))]) hx hb d_S_markedPlaces_3 rfl hl (by decide) rfl (fun ls hl => ?_)
  generalize hRR : (headSpec (w_S_markedPlaces :: TB) rA1).room = RR
  generalize hQQ : MQ below (vp_Si (fun r => r = nI (bsum (M i) 4))) [.ref (a (3 + i))].toArray s 0 0 (fun _ => False) = QQ
  have loop : ∀ (n j : Nat), j ≤ 4 → 5 ≤ j + n → ∀ (ls : Array Slot), lv_has ls 3 [(1, .int (nI (bsum (M i) j))), (2, .int (nI j)), (0, .ref (a (3 + i)))] → W p l e RR s m [.ref (a (3 + i))].toArray below meth c s.heap [] 0 0 QQ (F0 m 4 ls []) := by
    intro n
    induction n with
    | zero =>
      intro j h1 h2
      exact absurd h2 (by omega)
    | succ n ih =>
      intro j hj hjn ls hl
      refine lv_iload_n hx hb d_S_markedPlaces_4 rfl (lv_at hl 1 rfl) ?_
      refine lv_iconst (v := 4) hx hb d_S_markedPlaces_5 (by decide) ?_
      refine lv_icmp_ge (tgt := 27) hx hb d_S_markedPlaces_6 (by decide) (fun c_6 => ?_) (fun c_6 => ?_)
      · have hj : j = 4 := by
          rcases Nat.lt_or_ge j 4 with q | q
          · exact absurd c_6 (nI_ge q (by decide))
          · omega
        subst hj
        refine lv_iload_n hx hb d_S_markedPlaces_27 rfl (lv_at hl 0 rfl) ?_
        subst hQQ
        exact W.iret (v := nI (bsum (M i) 4)) hx hb hr (fun t ht hW => ⟨_, rfl, rfl, ht⟩) (fun _ h => absurd h List.not_mem_nil) d_S_markedPlaces_28
      · have hlt : j < 4 := by
          rcases Nat.lt_or_ge j 4 with q | q
          · exact q
          · exact absurd (nI_le q (by omega)) c_6
        refine lv_iload_n hx hb d_S_markedPlaces_9 rfl (lv_at hl 0 rfl) ?_
        refine lv_aload_n hx hb d_S_markedPlaces_10 rfl (lv_at hl 2 rfl) ?_
        refine va_get (D := D) (ci := 0) (v := .ref (a (65 + i))) (C := RS) (T := TS) (N := 3) hx hb hts kin_S hown hK hP (i + 3) (wx_s hi) rfl 1 (by decide) (hts _ kf_S_15) (fun _ h9 => h9) rfl d_S_markedPlaces_11 ?_
        refine lv_iload_n hx hb d_S_markedPlaces_14 rfl (lv_at hl 1 rfl) ?_
        refine va_lald hx hb hK hP (i + 65) 0 (wx_m hi) rfl (vp_in_nI hlt (by decide)) d_S_markedPlaces_15 ?_
        rw [nI_clamp (show j < 2 ^ 31 by omega)]
        obtain ⟨x, hx64, ex⟩ := wb_of (M i j)
        rw [ex]
        refine vp_callSi (W.runS (As := [.long (lN x)]) (rest := [.int (nI (bsum (M i) j))]) ⟨hx, hb, hml, hown, hts⟩ (m_J_bitCount l x hx64) (va_cwS 1 hts (TB_g3 kl_S_28 kt_J_bitCount kz_J (TB_c kc_J_bitCount)) rfl rfl rfl (by decide +kernel) (by rw [← hRR]; exact ⟨Nat.le_of_ble_eq_true rfl, Nat.le_of_ble_eq_true rfl⟩)) preEq rfl rfl hl.1 rfl (lv_room (Nat.le_of_ble_eq_true rfl)) d_S_markedPlaces_16 ⟨Nat.zero_le _, Nat.zero_le _⟩) (fun r1 hr1 => ?_)
        refine lv_iadd hx hb d_S_markedPlaces_19 ?_
        refine lv_istore_n (lv' := [(1, .int ((nI (bsum (M i) j)) + (r1))), (2, .int (nI j)), (0, .ref (a (3 + i)))]) hx hb d_S_markedPlaces_20 rfl hl (by decide) rfl (fun ls hl => ?_)
        refine lv_iinc (v := (nI j) + 1) (lv' := [(2, .int ((nI j) + 1)), (1, .int ((nI (bsum (M i) j)) + (r1))), (0, .ref (a (3 + i)))]) hx hb d_S_markedPlaces_21 hl (k := 1) rfl rfl (by decide) rfl (fun ls hl => ?_)
        refine lv_goto (tgt := 4) hx hb d_S_markedPlaces_24 (by decide) ?_
        refine ih (j + 1) hlt (by omega) ls ?_
        have e1 : nI (bsum (M i) j) + r1 = nI (bsum (M i) (j + 1)) := by
          rw [hr1, nI_add]
          show _ = nI (bsum (M i) j + pz_n (M i j).toBitVec.toNat 64)
          rw [ex, wb_tn hx64]
        rw [← e1, ← nI_1 j]
        exact lv_sub hl [1, 0, 2] rfl
  exact loop 5 0 (by omega) (by omega) ls (lv_sub hl [1, 0, 2] rfl)
set_option maxHeartbeats 4000000 in
set_option maxRecDepth 100000 in
/-- all is as in the other state -/
theorem m_S_copyFrom (l : Launch) (D : va_G) (k : Nat → ClassId) (a : Nat → Nat) (d : Int32) (F : Nat → Int64) (V M : Nat → Nat → Int64) (R : Nat → Int32) (i : Nat) (hi : i < 31) (j : Nat) (hj : j < 31) (sz : Nat) : Met l y_S_copyFrom (w_S_copyFrom :: TB) rA1 (va_Pc [.ref (a (3 + i)), .ref (a (3 + j))] (PW D k (WX k a d F V M R) sz)) (va_Qv (fun u : (Nat → Nat → Int64) × (Nat → Nat → Int64) × (Nat → Int32) => u.1 = va_up V i (va_cpy (V j) (V i) 0 0 256) ∧ u.2.1 = va_up M i (va_cpy (M j) (M i) 0 0 4) ∧ u.2.2 = va_up R i (R j)) (fun u t => va_P D wCl (WX k a d F u.1 u.2.1 u.2.2) t.heap) (va_A (WX k a d F V M R) sz)) 0 0 (va_A (WX k a d F V M R) sz) := by
  refine Met.ofW (cc := b_S_copyFrom) (maxL := 2) (ret := none) (by decide) rfl ?_
  intro p e s m args below meth c s₁ B hml hv
  obtain ⟨rfl, hsz, hP, hK, hD0, hE⟩ := hv
  have hx := B.exec
  have hb := B.bytes
  have hr := B.returns
  have hts0 := atoms_spec (ws := w_S_copyFrom :: TB) B.pre
  have hts := fun w (hw : w ∈ TB) => hts0 w (List.mem_cons_of_mem _ hw)
  have hown : s.vm.findClass RS = some m.cls := findClass_of_methodNamed B.named
  have hlocks := B.notSynchronized
  subst hsz
  have hD := hD0.self (sz := s.heap.size)
  generalize hAe : va_A (WX k a d F V M R) s.heap.size = A at *
  have hA : ∀ q : Nat, s.heap.size ≤ q → A q := fun q h => by rw [← hAe]; exact Or.inr h
  have hS : va_S A s.heap s.heap [] := va_S.rf
  have hl := lv_entry ([.ref (a (3 + i)), .ref (a (3 + j))]) (n := 2) (Nat.le_of_ble_eq_true rfl)
  rw [lg_entry_eq]
  generalize (lg_sl ([.ref (a (3 + i)), .ref (a (3 + j))]) ++ List.replicate (2 - (lg_sl ([.ref (a (3 + i)), .ref (a (3 + j))])).length) Slot.unset).toArray = ls at hl ⊢
  have hl : lv_has ls 2 [(0, .ref (a (3 + i))), (1, .ref (a (3 + j)))] := hl
  refine lv_aload_n hx hb d_S_copyFrom_0 rfl (lv_at hl 1 rfl) ?_
  refine va_get (D := D) (ci := 0) (v := .ref (a (34 + j))) (C := RS) (T := TS) (N := 3) hx hb hts kin_S hown hK hP (j + 3) (wx_s hj) rfl 0 (by decide) (hts _ kf_S_9) (fun _ h9 => h9) rfl d_S_copyFrom_1 ?_
  refine lv_iconst (v := 0) hx hb d_S_copyFrom_4 (by decide) ?_
  refine lv_aload_n hx hb d_S_copyFrom_5 rfl (lv_at hl 0 rfl) ?_
  refine va_get (D := D) (ci := 0) (v := .ref (a (34 + i))) (C := RS) (T := TS) (N := 3) hx hb hts kin_S hown hK hP (i + 3) (wx_s hi) rfl 0 (by decide) (hts _ kf_S_9) (fun _ h9 => h9) rfl d_S_copyFrom_6 ?_
  refine lv_iconst (v := 0) hx hb d_S_copyFrom_9 (by decide) ?_
  refine lv_sipush (v := 256) hx hb d_S_copyFrom_10 (by decide) ?_
  refine va_copyl hx hb (hml.trans hl.1.symm) hown (hts _ kl_S_22) (hts _ kn_arraycopyName) (hts _ kt_arraycopyName) (hts _ kz_System) hK hP hD hS (j + 34) (i + 34) 0 0 (wx_v hj) (wx_v hi) rfl rfl rfl (by decide) (by decide) (by decide) (by decide) (by decide) (fun _ _ => rfl) (Nat.le_of_ble_eq_true rfl) (Nat.le_of_ble_eq_true rfl) d_S_copyFrom_13 (fun H locs hP hD hS => ?_)
  have hP := (congrArg (fun w => va_P D wCl w H) (wx_setV hi)).mp hP
  have hD := (congrArg (fun w => va_D A w) (wx_setV hi)).mp hD
  have hP : va_P D wCl (WX k a d F (va_up V i (va_cpy (V j) (V i) 0 0 256)) M R) H := hP
  have hD : va_D A (WX k a d F (va_up V i (va_cpy (V j) (V i) 0 0 256)) M R) := hD
  refine lv_aload_n hx hb d_S_copyFrom_16 rfl (lv_at hl 1 rfl) ?_
  refine va_get (D := D) (ci := 0) (v := .ref (a (65 + j))) (C := RS) (T := TS) (N := 3) hx hb hts kin_S hown hK hP (j + 3) (wx_s hj) rfl 1 (by decide) (hts _ kf_S_15) (fun _ h9 => h9) rfl d_S_copyFrom_17 ?_
  refine lv_iconst (v := 0) hx hb d_S_copyFrom_20 (by decide) ?_
  refine lv_aload_n hx hb d_S_copyFrom_21 rfl (lv_at hl 0 rfl) ?_
  refine va_get (D := D) (ci := 0) (v := .ref (a (65 + i))) (C := RS) (T := TS) (N := 3) hx hb hts kin_S hown hK hP (i + 3) (wx_s hi) rfl 1 (by decide) (hts _ kf_S_15) (fun _ h9 => h9) rfl d_S_copyFrom_22 ?_
  refine lv_iconst (v := 0) hx hb d_S_copyFrom_25 (by decide) ?_
  refine lv_iconst (v := 4) hx hb d_S_copyFrom_26 (by decide) ?_
  refine va_copyl hx hb (hml.trans hl.1.symm) hown (hts _ kl_S_22) (hts _ kn_arraycopyName) (hts _ kt_arraycopyName) (hts _ kz_System) hK hP hD hS (j + 65) (i + 65) 0 0 (wx_m hj) (wx_m hi) rfl rfl rfl (by decide) (by decide) (by decide) (by decide) (by decide) (fun _ _ => rfl) (Nat.le_of_ble_eq_true rfl) (Nat.le_of_ble_eq_true rfl) d_S_copyFrom_27 (fun H locs hP hD hS => ?_)
  have hP := (congrArg (fun w => va_P D wCl w H) (wx_setM hi)).mp hP
  have hD := (congrArg (fun w => va_D A w) (wx_setM hi)).mp hD
  have hP : va_P D wCl (WX k a d F (va_up V i (va_cpy (V j) (V i) 0 0 256)) (va_up M i (va_cpy (M j) (M i) 0 0 4)) R) H := hP
  have hD : va_D A (WX k a d F (va_up V i (va_cpy (V j) (V i) 0 0 256)) (va_up M i (va_cpy (M j) (M i) 0 0 4)) R) := hD
  refine lv_aload_n hx hb d_S_copyFrom_30 rfl (lv_at hl 0 rfl) ?_
  refine lv_aload_n hx hb d_S_copyFrom_31 rfl (lv_at hl 1 rfl) ?_
  refine va_get (D := D) (ci := 0) (v := .int (R j)) (C := RS) (T := TS) (N := 3) hx hb hts kin_S hown hK hP (j + 3) (wx_s hj) rfl 2 (by decide) (hts _ kf_S_18) (fun _ h9 => h9) rfl d_S_copyFrom_32 ?_
  refine va_put (D := D) (ci := 0) (v := .int (R j)) (ty := .int) (C := RS) (T := TS) (N := 3) hx hb hts kin_S tS tyS nmS hown hK hP hD hS (i + 3) (wx_s hi) rfl 2 (by decide) (hts _ kf_S_18) (fun _ h9 => h9) rfl (by decide +kernel) rfl rfl (Nat.le_of_ble_eq_true rfl) d_S_copyFrom_35 (fun H locs hP hD hS => ?_)
  have hP := (congrArg (fun w => va_P D wCl w H) (wx_setR hi)).mp hP
  have hD := (congrArg (fun w => va_D A w) (wx_setR hi)).mp hD
  have hP : va_P D wCl (WX k a d F (va_up V i (va_cpy (V j) (V i) 0 0 256)) (va_up M i (va_cpy (M j) (M i) 0 0 4)) (va_up R i (R j))) H := hP
  have hD : va_D A (WX k a d F (va_up V i (va_cpy (V j) (V i) 0 0 256)) (va_up M i (va_cpy (M j) (M i) 0 0 4)) (va_up R i (R j))) := hD
  exact W.vret hx hb hr (fun t ht hW => ⟨⟨(va_up V i (va_cpy (V j) (V i) 0 0 256), va_up M i (va_cpy (M j) (M i) 0 0 4), va_up R i (R j)), rfl, ⟨rfl, rfl, rfl⟩, atP hP ht⟩, hS.F ht⟩) hS.2.2 d_S_copyFrom_38
set_option maxHeartbeats 4000000 in
set_option maxRecDepth 100000 in
/-- nothing is marked, nothing given back -/
theorem m_S_forgetCosts (l : Launch) (D : va_G) (k : Nat → ClassId) (a : Nat → Nat) (d : Int32) (F : Nat → Int64) (V M : Nat → Nat → Int64) (R : Nat → Int32) (i : Nat) (hi : i < 31) (sz : Nat) : Met l y_S_forgetCosts (w_S_forgetCosts :: TB) rA1 (va_Pc [.ref (a (3 + i))] (PW D k (WX k a d F V M R) sz)) (va_Qv (fun u : (Nat → Nat → Int64) × (Nat → Int32) => (∃ f : Nat → Int64, (∀ q, q < 4 → f q = 0) ∧ u.1 = va_up M i f) ∧ u.2 = va_up R i 0) (fun u t => va_P D wCl (WX k a d F V u.1 u.2) t.heap) (va_A (WX k a d F V M R) sz)) 0 0 (va_A (WX k a d F V M R) sz) := by
  refine Met.ofW (cc := b_S_forgetCosts) (maxL := 2) (ret := none) (by decide) rfl ?_
  intro p e s m args below meth c s₁ B hml hv
  obtain ⟨rfl, hsz, hP, hK, hD0, hE⟩ := hv
  have hx := B.exec
  have hb := B.bytes
  have hr := B.returns
  have hts0 := atoms_spec (ws := w_S_forgetCosts :: TB) B.pre
  have hts := fun w (hw : w ∈ TB) => hts0 w (List.mem_cons_of_mem _ hw)
  have hown : s.vm.findClass RS = some m.cls := findClass_of_methodNamed B.named
  have hlocks := B.notSynchronized
  subst hsz
  have hD := hD0.self (sz := s.heap.size)
  generalize hAe : va_A (WX k a d F V M R) s.heap.size = A at *
  have hA : ∀ q : Nat, s.heap.size ≤ q → A q := fun q h => by rw [← hAe]; exact Or.inr h
  have hS : va_S A s.heap s.heap [] := va_S.rf
  have hl := lv_entry ([.ref (a (3 + i))]) (n := 2) (Nat.le_of_ble_eq_true rfl)
  rw [lg_entry_eq]
  generalize (lg_sl ([.ref (a (3 + i))]) ++ List.replicate (2 - (lg_sl ([.ref (a (3 + i))])).length) Slot.unset).toArray = ls at hl ⊢
  have hl : lv_has ls 2 [(0, .ref (a (3 + i)))] := hl
  refine lv_iconst (v := 0) hx hb d_S_forgetCosts_0 (by decide) ?_
  refine lv_istore_n (lv' := [(1, .int 0), (0, .ref (a (3 + i)))]) hx hb d_S_forgetCosts_1 rfl hl (by decide) rfl (fun ls hl => ?_)
  generalize hRR : (headSpec (w_S_forgetCosts :: TB) rA1).room = RR
  generalize hQQ : MQ below (va_Qv (fun u : (Nat → Nat → Int64) × (Nat → Int32) => (∃ f : Nat → Int64, (∀ q, q < 4 → f q = 0) ∧ u.1 = va_up M i f) ∧ u.2 = va_up R i 0) (fun u t => va_P D wCl (WX k a d F V u.1 u.2) t.heap) A) [.ref (a (3 + i))].toArray s 0 0 A = QQ
  have loop : ∀ (n j : Nat), j ≤ 4 → 5 ≤ j + n → ∀ (f : Nat → Int64), (∀ q, q < j → f q = 0) → ∀ (H : Heap) (locs : List Loc), va_P D wCl (WX k a d F V (va_up M i f) R) H → va_D A (WX k a d F V (va_up M i f) R) → va_S A s.heap H locs → ∀ (ls : Array Slot), lv_has ls 2 [(1, .int (nI j)), (0, .ref (a (3 + i)))] → W p l e RR s m [.ref (a (3 + i))].toArray below meth c H locs 0 0 QQ (F0 m 2 ls []) := by
    intro n
    induction n with
    | zero =>
      intro j h1 h2
      exact absurd h2 (by omega)
    | succ n ih =>
      intro j hj hjn f hf H locs hP hD hS ls hl
      refine lv_iload_n hx hb d_S_forgetCosts_2 rfl (lv_at hl 0 rfl) ?_
      refine lv_iconst (v := 4) hx hb d_S_forgetCosts_3 (by decide) ?_
      refine lv_icmp_ge (tgt := 20) hx hb d_S_forgetCosts_4 (by decide) (fun c_4 => ?_) (fun c_4 => ?_)
      · have hj : j = 4 := by
          rcases Nat.lt_or_ge j 4 with q | q
          · exact absurd c_4 (nI_ge q (by decide))
          · omega
        subst hj
        refine lv_aload_n hx hb d_S_forgetCosts_20 rfl (lv_at hl 1 rfl) ?_
        refine lv_iconst (v := 0) hx hb d_S_forgetCosts_21 (by decide) ?_
        refine va_put (D := D) (ci := 0) (v := .int 0) (ty := .int) (C := RS) (T := TS) (N := 3) hx hb hts kin_S tS tyS nmS hown hK hP hD hS (i + 3) (wx_s hi) rfl 2 (by decide) (hts _ kf_S_18) (fun _ h9 => h9) rfl (by decide +kernel) rfl rfl (Nat.le_of_ble_eq_true rfl) d_S_forgetCosts_22 (fun H locs hP hD hS => ?_)
        have hP := (congrArg (fun w => va_P D wCl w H) (wx_setR hi)).mp hP
        have hD := (congrArg (fun w => va_D A w) (wx_setR hi)).mp hD
        have hP : va_P D wCl (WX k a d F V (va_up M i f) (va_up R i 0)) H := hP
        have hD : va_D A (WX k a d F V (va_up M i f) (va_up R i 0)) := hD
        subst hQQ
        exact W.vret hx hb hr (fun t ht hW => ⟨⟨(va_up M i f, va_up R i 0), rfl, ⟨⟨f, hf, rfl⟩, rfl⟩, atP hP ht⟩, hS.F ht⟩) hS.2.2 d_S_forgetCosts_25
      · have hlt : j < 4 := by
          rcases Nat.lt_or_ge j 4 with q | q
          · exact q
          · exact absurd (nI_le q (by omega)) c_4
        refine lv_aload_n hx hb d_S_forgetCosts_7 rfl (lv_at hl 1 rfl) ?_
        refine va_get (D := D) (ci := 0) (v := .ref (a (65 + i))) (C := RS) (T := TS) (N := 3) hx hb hts kin_S hown hK hP (i + 3) (wx_s hi) rfl 1 (by decide) (hts _ kf_S_15) (fun _ h9 => h9) rfl d_S_forgetCosts_8 ?_
        refine lv_iload_n hx hb d_S_forgetCosts_11 rfl (lv_at hl 0 rfl) ?_
        refine lv_lconst (v := 0) hx hb d_S_forgetCosts_12 (by decide) ?_
        refine va_last hx hb hK hP hD hS (i + 65) 0 (wx_m hi) rfl (vp_in_nI hlt (by decide)) d_S_forgetCosts_13 (fun H locs hP hD hS => ?_)
        have hP := (congrArg (fun w => va_P D wCl w H) (wx_setM hi)).mp hP
        have hD := (congrArg (fun w => va_D A w) (wx_setM hi)).mp hD
        have hP : va_P D wCl (WX k a d F V (va_up (va_up M i f) i (vp_updL ((va_up M i f) i) ((nI j).toNatClampNeg) 0)) R) H := hP
        have hD : va_D A (WX k a d F V (va_up (va_up M i f) i (vp_updL ((va_up M i f) i) ((nI j).toNatClampNeg) 0)) R) := hD
        refine lv_iinc (v := (nI j) + 1) (lv' := [(1, .int ((nI j) + 1)), (0, .ref (a (3 + i)))]) hx hb d_S_forgetCosts_14 hl (k := 0) rfl rfl (by decide) rfl (fun ls hl => ?_)
        refine lv_goto (tgt := 2) hx hb d_S_forgetCosts_17 (by decide) ?_
        rw [nI_clamp (show j < 2 ^ 31 by omega), va_up_self, bx_uu] at hP hD
        refine ih (j + 1) hlt (by omega) (vp_updL f j 0) (fun q hq => ?_) H locs hP hD hS ls ?_
        · by_cases h : q = j
          · rw [h]; exact pk_uLs
          · rw [pk_uLn h]; exact hf q (by omega)
        · rw [← nI_1 j]; exact lv_sub hl [0, 1] rfl
  refine loop 5 0 (by omega) (by omega) (M i) (fun q h => absurd h (Nat.not_lt_zero q)) s.heap [] ?_ ?_ hS ls (lv_sub hl [0, 1] rfl)
  · rw [up_id]; exact hP
  · rw [up_id]; exact hD
