theorem ts_bit {w : Int64} {s : UInt64} {j : Nat} (hj : j < 64) (hs : s.toNat = j) : ((w.toUInt64 >>> s).toInt64 &&& 1) = 0 ↔ w.toBitVec.getLsbD j = false := by
  have e : (w.toUInt64 >>> s).toInt64.toBitVec = w.toBitVec >>> j := by
    apply BitVec.eq_of_toNat_eq
    show (w.toUInt64 >>> s).toNat = _
    rw [UInt64.toNat_shiftRight, hs, Nat.mod_eq_of_lt hj, BitVec.toNat_ushiftRight]
    rfl
  rw [← Int64.toBitVec_inj, Int64.toBitVec_and, e]
  show w.toBitVec >>> j &&& 1#64 = 0#64 ↔ _
  constructor
  · intro h
    have t := congrArg (fun x => x.getLsbD 0) h
    simpa using t
  · intro h
    apply BitVec.eq_of_getLsbD_eq
    intro i hi
    cases i with
    | zero => simp [h]
    | succ i => simp
theorem ts_or {w m : Int64} {j : Nat} (hj : j < 64) (hm : m.toBitVec = BitVec.twoPow 64 j) : (w ||| m) = w ↔ w.toBitVec.getLsbD j = true := by
  rw [← Int64.toBitVec_inj, Int64.toBitVec_or, hm]
  constructor
  · intro h
    have t := congrArg (fun x => x.getLsbD j) h
    simp only [BitVec.getLsbD_or, BitVec.getLsbD_twoPow] at t
    simpa [hj] using t.symm
  · intro h
    apply BitVec.eq_of_getLsbD_eq
    intro i hi
    rw [BitVec.getLsbD_or, BitVec.getLsbD_twoPow]
    by_cases e : j = i
    · subst e; rw [h, Bool.true_or]
    · simp [e]
theorem wb_tb (n : Nat) : (lN n).toBitVec = BitVec.ofNat 64 n := rfl
theorem wb_inj {a b : Int64} (h : a.toBitVec = b.toBitVec) : a = b := Int64.toBitVec_inj.mp h
theorem wb_tn {n : Nat} (h : n < 2 ^ 64) : (lN n).toBitVec.toNat = n := by rw [wb_tb, BitVec.toNat_ofNat, Nat.mod_eq_of_lt h]
theorem wb_of (x : Int64) : ∃ n, n < 2 ^ 64 ∧ x = lN n := ⟨x.toBitVec.toNat, x.toBitVec.isLt, wb_inj (by rw [wb_tb]; simp)⟩
theorem wb_of32 (x : Int32) : ∃ n, n < 2 ^ 32 ∧ x = nI n := ⟨x.toBitVec.toNat, x.toBitVec.isLt, Int32.toBitVec_inj.mp (by show _ = BitVec.ofNat 32 _; simp)⟩
theorem wb_c : ∀ k, k < 64 → ((nI k).toInt64 &&& 63) = lN k := by decide +kernel
theorem wb_cu : ∀ k, k < 64 → ((nI k).toInt64.toUInt64 &&& Int64.toUInt64 63) = UInt64.ofNat k := by decide +kernel
theorem wb_sm : ∀ k, k < 64 → (BitVec.ofNat 64 k).smod 64 = BitVec.ofNat 64 k := by decide +kernel
theorem wb_pw {a b : Nat} (h : a ≤ b) : 2 ^ b = 2 ^ a * 2 ^ (b - a) := by rw [← Nat.pow_add]; congr 1; omega
theorem wb_lt2 {a b : Nat} (h : a < b) : 2 ^ a < 2 ^ b := Nat.pow_lt_pow_right (by decide) h
theorem wb_mod (n : Nat) : lN n = lN (n % 2 ^ 64) := wb_inj (by rw [wb_tb, wb_tb]; apply BitVec.eq_of_toNat_eq; rw [BitVec.toNat_ofNat, BitVec.toNat_ofNat, Nat.mod_mod])
theorem wb_shr {n k : Nat} (hn : n < 2 ^ 64) (hk : k < 64) : ((lN n).toUInt64 >>> ((nI k).toInt64.toUInt64 &&& Int64.toUInt64 63)).toInt64 = lN (n / 2 ^ k) := by
  rw [wb_cu k hk]
  apply wb_inj
  apply BitVec.eq_of_toNat_eq
  show ((lN n).toUInt64 >>> UInt64.ofNat k).toNat = (BitVec.ofNat 64 _).toNat
  have h1 : (UInt64.ofNat k).toNat = k := by
    show (BitVec.ofNat 64 k).toNat = k
    rw [BitVec.toNat_ofNat, Nat.mod_eq_of_lt (by omega)]
  have h2 : (lN n).toUInt64.toNat = n := wb_tn hn
  rw [UInt64.toNat_shiftRight, h1, h2, Nat.mod_eq_of_lt hk, Nat.shiftRight_eq_div_pow, BitVec.toNat_ofNat, Nat.mod_eq_of_lt (Nat.lt_of_le_of_lt (Nat.div_le_self _ _) hn)]
theorem wb_shl (n : Nat) {k : Nat} (hk : k < 64) : lN n <<< ((nI k).toInt64 &&& 63) = lN (n * 2 ^ k) := by
  rw [wb_c k hk]
  apply wb_inj
  rw [Int64.toBitVec_shiftLeft, wb_tb, wb_tb, wb_tb, wb_sm k hk]
  apply BitVec.eq_of_toNat_eq
  rw [BitVec.shiftLeft_eq', BitVec.toNat_shiftLeft, BitVec.toNat_ofNat, BitVec.toNat_ofNat, BitVec.toNat_ofNat, Nat.mod_eq_of_lt (show k < 2 ^ 64 by omega), Nat.shiftLeft_eq, Nat.mul_mod, Nat.mod_mod, ← Nat.mul_mod]
theorem wb_and {a b : Nat} (ha : a < 2 ^ 64) (hb : b < 2 ^ 64) : lN a &&& lN b = lN (a &&& b) := by
  apply wb_inj
  rw [Int64.toBitVec_and, wb_tb, wb_tb, wb_tb]
  apply BitVec.eq_of_toNat_eq
  rw [BitVec.toNat_and, BitVec.toNat_ofNat, BitVec.toNat_ofNat, BitVec.toNat_ofNat, Nat.mod_eq_of_lt ha, Nat.mod_eq_of_lt hb, Nat.mod_eq_of_lt (Nat.and_lt_two_pow _ hb)]
theorem wb_or {a b : Nat} (ha : a < 2 ^ 64) (hb : b < 2 ^ 64) : lN a ||| lN b = lN (a ||| b) := by
  apply wb_inj
  rw [Int64.toBitVec_or, wb_tb, wb_tb, wb_tb]
  apply BitVec.eq_of_toNat_eq
  rw [BitVec.toNat_or, BitVec.toNat_ofNat, BitVec.toNat_ofNat, BitVec.toNat_ofNat, Nat.mod_eq_of_lt ha, Nat.mod_eq_of_lt hb, Nat.mod_eq_of_lt (Nat.or_lt_two_pow ha hb)]
theorem wb_mask {n k : Nat} (hn : n < 2 ^ 64) (hk : k < 64) : lN n &&& lN (2 ^ k - 1) = lN (n % 2 ^ k) := by
  rw [wb_and hn (by have := wb_lt2 hk; omega), Nat.and_two_pow_sub_one_eq_mod]
theorem wb_a1 {n : Nat} (hn : n < 2 ^ 64) : lN n &&& 1 = lN (n % 2) := wb_mask (k := 1) hn (by decide)
theorem wb_bit {n k : Nat} (hn : n < 2 ^ 64) (hk : k < 64) : ((lN n).toUInt64 >>> ((nI k).toInt64.toUInt64 &&& Int64.toUInt64 63)).toInt64 &&& 1 = lN (n / 2 ^ k % 2) := by
  rw [wb_shr hn hk, wb_a1 (Nat.lt_of_le_of_lt (Nat.div_le_self _ _) hn)]
/-! pure methods -/
def fWC (o c b : Int64) : Int32 := if b = c then 100 else if o = c then (if o = 0 then 20000 else 2900) else 100
def fCC (o c b : Int64) : Int32 := if o = 0 then 0 else if c = 0 then -15000 else if b = 0 then 15000 else 0
def fRS (o b : Int64) : Int32 := if o = b then (if o = 0 then 19900 else 2800) else 0
def fRC (o c b : Int64) : Int32 := if b = c then 0 else if o = c then (if b = 0 then 15000 else 0) else fCC o c b + fRS o b
abbrev rA0 : Room := { frames := 0, cells := 0, slots := 0, locals := 0 }
abbrev rA1 : Room := { frames := 1, cells := 0, slots := 0, locals := 60 }

set_option maxHeartbeats 4000000 in
set_option maxRecDepth 100000 in
theorem m_X_cellOf (l : Launch) (o1 : Int32) (p1 : Int32) : Met l y_X_cellOf (w_X_cellOf :: TB) rA0 (fun v _ => v = ([.int o1, .int p1] : List Value).toArray) (vp_Si (fun r => r = o1 * 64 + p1)) 0 0 (fun _ => False) := by
  refine Met.ofW (cc := b_X_cellOf) (maxL := 2) (ret := some .int) (by decide) rfl ?_
  intro p e s m args below meth c s₁ B hml hv
  subst hv
  have hx := B.exec
  have hb := B.bytes
  have hr := B.returns
  have hts0 := atoms_spec (ws := w_X_cellOf :: TB) B.pre
  have hts := fun w (hw : w ∈ TB) => hts0 w (List.mem_cons_of_mem _ hw)
  have hown : s.vm.findClass RX = some m.cls := findClass_of_methodNamed B.named
  have hlocks := B.notSynchronized
  have hl := lv_entry ([.int o1, .int p1]) (n := 2) (Nat.le_of_ble_eq_true rfl)
  rw [lg_entry_eq]
  generalize (lg_sl ([.int o1, .int p1]) ++ List.replicate (2 - (lg_sl ([.int o1, .int p1])).length) Slot.unset).toArray = ls at hl ⊢
  have hl : lv_has ls 2 [(0, .int o1), (1, .int p1)] := hl
  refine lv_iload_n hx hb d_X_cellOf_0 rfl (lv_at hl 0 rfl) ?_
  refine lv_bipush (v := 64) hx hb d_X_cellOf_1 (by decide) ?_
  refine lv_imul hx hb d_X_cellOf_3 ?_
  refine lv_iload_n hx hb d_X_cellOf_4 rfl (lv_at hl 1 rfl) ?_
  refine lv_iadd hx hb d_X_cellOf_5 ?_
  exact W.iret (v := ((o1) * (64)) + (p1)) hx hb hr (fun t ht hW => ⟨_, rfl, rfl, ht⟩) (fun _ h => absurd h List.not_mem_nil) d_X_cellOf_6
set_option maxHeartbeats 4000000 in
set_option maxRecDepth 100000 in
theorem m_X_writeCost (l : Launch) (x1 : Int64) (x2 : Int64) (x3 : Int64) : Met l y_X_writeCost (w_X_writeCost :: TB) rA0 (fun v _ => v = ([.long x1, .long x2, .long x3] : List Value).toArray) (vp_Si (fun r => r = fWC x1 x2 x3)) 0 0 (fun _ => False) := by
  refine Met.ofW (cc := b_X_writeCost) (maxL := 6) (ret := some .int) (by decide) rfl ?_
  intro p e s m args below meth c s₁ B hml hv
  subst hv
  have hx := B.exec
  have hb := B.bytes
  have hr := B.returns
  have hts0 := atoms_spec (ws := w_X_writeCost :: TB) B.pre
  have hts := fun w (hw : w ∈ TB) => hts0 w (List.mem_cons_of_mem _ hw)
  have hown : s.vm.findClass RX = some m.cls := findClass_of_methodNamed B.named
  have hlocks := B.notSynchronized
  have hl := lv_entry ([.long x1, .long x2, .long x3]) (n := 6) (Nat.le_of_ble_eq_true rfl)
  rw [lg_entry_eq]
  generalize (lg_sl ([.long x1, .long x2, .long x3]) ++ List.replicate (6 - (lg_sl ([.long x1, .long x2, .long x3])).length) Slot.unset).toArray = ls at hl ⊢
  have hl : lv_has ls 6 [(0, .long x1), (2, .long x2), (4, .long x3)] := hl
  refine lv_lload hx hb d_X_writeCost_0 (lv_at hl 2 rfl) ?_
  refine lv_lload_n hx hb d_X_writeCost_2 rfl (lv_at hl 1 rfl) ?_
  refine W.lcmp hx hb d_X_writeCost_3 ?_
  refine lv_if_eq (tgt := 13) hx hb d_X_writeCost_4 (by decide) (fun c_4 => ?_) (fun c_4 => ?_)
  · have c_4 : x3 = x2 := (lg_cmp_eq _ _).mp c_4
    refine lv_bipush (v := 100) hx hb d_X_writeCost_13 (by decide) ?_
    exact W.iret (v := 100) hx hb hr (fun t ht hW => ⟨_, rfl, by (first | unfold fWC | unfold fCC | unfold fRS); (repeat' split) <;> first | rfl | contradiction, ht⟩) (fun _ h => absurd h List.not_mem_nil) d_X_writeCost_15
  · have c_4 : ¬ x3 = x2 := fun q => c_4 ((lg_cmp_eq _ _).mpr q)
    refine lv_lload_n hx hb d_X_writeCost_7 rfl (lv_at hl 0 rfl) ?_
    refine lv_lload_n hx hb d_X_writeCost_8 rfl (lv_at hl 1 rfl) ?_
    refine W.lcmp hx hb d_X_writeCost_9 ?_
    refine lv_if_eq (tgt := 16) hx hb d_X_writeCost_10 (by decide) (fun c_10 => ?_) (fun c_10 => ?_)
    · have c_10 : x1 = x2 := (lg_cmp_eq _ _).mp c_10
      refine lv_lload_n hx hb d_X_writeCost_16 rfl (lv_at hl 0 rfl) ?_
      refine lv_lconst (v := 0) hx hb d_X_writeCost_17 (by decide) ?_
      refine W.lcmp hx hb d_X_writeCost_18 ?_
      refine lv_if_ne (tgt := 28) hx hb d_X_writeCost_19 (by decide) (fun c_19 => ?_) (fun c_19 => ?_)
      · have c_19 : ¬ x1 = 0 := fun q => c_19 ((lg_cmp_eq _ _).mpr q)
        refine lv_sipush (v := 2900) hx hb d_X_writeCost_28 (by decide) ?_
        exact W.iret (v := 2900) hx hb hr (fun t ht hW => ⟨_, rfl, by (first | unfold fWC | unfold fCC | unfold fRS); (repeat' split) <;> first | rfl | contradiction, ht⟩) (fun _ h => absurd h List.not_mem_nil) d_X_writeCost_31
      · have c_19 : x1 = 0 := (lg_cmp_eq _ _).mp c_19
        refine lv_sipush (v := 20000) hx hb d_X_writeCost_22 (by decide) ?_
        refine lv_goto (tgt := 31) hx hb d_X_writeCost_25 (by decide) ?_
        exact W.iret (v := 20000) hx hb hr (fun t ht hW => ⟨_, rfl, by (first | unfold fWC | unfold fCC | unfold fRS); (repeat' split) <;> first | rfl | contradiction, ht⟩) (fun _ h => absurd h List.not_mem_nil) d_X_writeCost_31
    · have c_10 : ¬ x1 = x2 := fun q => c_10 ((lg_cmp_eq _ _).mpr q)
      refine lv_bipush (v := 100) hx hb d_X_writeCost_13 (by decide) ?_
      exact W.iret (v := 100) hx hb hr (fun t ht hW => ⟨_, rfl, by (first | unfold fWC | unfold fCC | unfold fRS); (repeat' split) <;> first | rfl | contradiction, ht⟩) (fun _ h => absurd h List.not_mem_nil) d_X_writeCost_15
set_option maxHeartbeats 4000000 in
set_option maxRecDepth 100000 in
theorem m_X_clearingChange (l : Launch) (x1 : Int64) (x2 : Int64) (x3 : Int64) : Met l y_X_clearingChange (w_X_clearingChange :: TB) rA0 (fun v _ => v = ([.long x1, .long x2, .long x3] : List Value).toArray) (vp_Si (fun r => r = fCC x1 x2 x3)) 0 0 (fun _ => False) := by
  refine Met.ofW (cc := b_X_clearingChange) (maxL := 6) (ret := some .int) (by decide) rfl ?_
  intro p e s m args below meth c s₁ B hml hv
  subst hv
  have hx := B.exec
  have hb := B.bytes
  have hr := B.returns
  have hts0 := atoms_spec (ws := w_X_clearingChange :: TB) B.pre
  have hts := fun w (hw : w ∈ TB) => hts0 w (List.mem_cons_of_mem _ hw)
  have hown : s.vm.findClass RX = some m.cls := findClass_of_methodNamed B.named
  have hlocks := B.notSynchronized
  have hl := lv_entry ([.long x1, .long x2, .long x3]) (n := 6) (Nat.le_of_ble_eq_true rfl)
  rw [lg_entry_eq]
  generalize (lg_sl ([.long x1, .long x2, .long x3]) ++ List.replicate (6 - (lg_sl ([.long x1, .long x2, .long x3])).length) Slot.unset).toArray = ls at hl ⊢
  have hl : lv_has ls 6 [(0, .long x1), (2, .long x2), (4, .long x3)] := hl
  refine lv_lload_n hx hb d_X_clearingChange_0 rfl (lv_at hl 0 rfl) ?_
  refine lv_lconst (v := 0) hx hb d_X_clearingChange_1 (by decide) ?_
  refine W.lcmp hx hb d_X_clearingChange_2 ?_
  refine lv_if_ne (tgt := 8) hx hb d_X_clearingChange_3 (by decide) (fun c_3 => ?_) (fun c_3 => ?_)
  · have c_3 : ¬ x1 = 0 := fun q => c_3 ((lg_cmp_eq _ _).mpr q)
    refine lv_lload_n hx hb d_X_clearingChange_8 rfl (lv_at hl 1 rfl) ?_
    refine lv_lconst (v := 0) hx hb d_X_clearingChange_9 (by decide) ?_
    refine W.lcmp hx hb d_X_clearingChange_10 ?_
    refine lv_if_ne (tgt := 18) hx hb d_X_clearingChange_11 (by decide) (fun c_11 => ?_) (fun c_11 => ?_)
    · have c_11 : ¬ x2 = 0 := fun q => c_11 ((lg_cmp_eq _ _).mpr q)
      refine lv_lload hx hb d_X_clearingChange_18 (lv_at hl 2 rfl) ?_
      refine lv_lconst (v := 0) hx hb d_X_clearingChange_20 (by decide) ?_
      refine W.lcmp hx hb d_X_clearingChange_21 ?_
      refine lv_if_ne (tgt := 31) hx hb d_X_clearingChange_22 (by decide) (fun c_22 => ?_) (fun c_22 => ?_)
      · have c_22 : ¬ x3 = 0 := fun q => c_22 ((lg_cmp_eq _ _).mpr q)
        refine lv_iconst (v := 0) hx hb d_X_clearingChange_31 (by decide) ?_
        exact W.iret (v := 0) hx hb hr (fun t ht hW => ⟨_, rfl, by (first | unfold fWC | unfold fCC | unfold fRS); (repeat' split) <;> first | rfl | contradiction, ht⟩) (fun _ h => absurd h List.not_mem_nil) d_X_clearingChange_32
      · have c_22 : x3 = 0 := (lg_cmp_eq _ _).mp c_22
        refine lv_sipush (v := 15000) hx hb d_X_clearingChange_25 (by decide) ?_
        refine lv_goto (tgt := 32) hx hb d_X_clearingChange_28 (by decide) ?_
        exact W.iret (v := 15000) hx hb hr (fun t ht hW => ⟨_, rfl, by (first | unfold fWC | unfold fCC | unfold fRS); (repeat' split) <;> first | rfl | contradiction, ht⟩) (fun _ h => absurd h List.not_mem_nil) d_X_clearingChange_32
    · have c_11 : x2 = 0 := (lg_cmp_eq _ _).mp c_11
      refine lv_sipush (v := (-15000)) hx hb d_X_clearingChange_14 (by decide) ?_
      exact W.iret (v := (-15000)) hx hb hr (fun t ht hW => ⟨_, rfl, by (first | unfold fWC | unfold fCC | unfold fRS); (repeat' split) <;> first | rfl | contradiction, ht⟩) (fun _ h => absurd h List.not_mem_nil) d_X_clearingChange_17
  · have c_3 : x1 = 0 := (lg_cmp_eq _ _).mp c_3
    refine lv_iconst (v := 0) hx hb d_X_clearingChange_6 (by decide) ?_
    exact W.iret (v := 0) hx hb hr (fun t ht hW => ⟨_, rfl, by (first | unfold fWC | unfold fCC | unfold fRS); (repeat' split) <;> first | rfl | contradiction, ht⟩) (fun _ h => absurd h List.not_mem_nil) d_X_clearingChange_7
set_option maxHeartbeats 4000000 in
set_option maxRecDepth 100000 in
theorem m_X_restoringChange (l : Launch) (x1 : Int64) (x3 : Int64) : Met l y_X_restoringChange (w_X_restoringChange :: TB) rA0 (fun v _ => v = ([.long x1, .long x3] : List Value).toArray) (vp_Si (fun r => r = fRS x1 x3)) 0 0 (fun _ => False) := by
  refine Met.ofW (cc := b_X_restoringChange) (maxL := 4) (ret := some .int) (by decide) rfl ?_
  intro p e s m args below meth c s₁ B hml hv
  subst hv
  have hx := B.exec
  have hb := B.bytes
  have hr := B.returns
  have hts0 := atoms_spec (ws := w_X_restoringChange :: TB) B.pre
  have hts := fun w (hw : w ∈ TB) => hts0 w (List.mem_cons_of_mem _ hw)
  have hown : s.vm.findClass RX = some m.cls := findClass_of_methodNamed B.named
  have hlocks := B.notSynchronized
  have hl := lv_entry ([.long x1, .long x3]) (n := 4) (Nat.le_of_ble_eq_true rfl)
  rw [lg_entry_eq]
  generalize (lg_sl ([.long x1, .long x3]) ++ List.replicate (4 - (lg_sl ([.long x1, .long x3])).length) Slot.unset).toArray = ls at hl ⊢
  have hl : lv_has ls 4 [(0, .long x1), (2, .long x3)] := hl
  refine lv_lload_n hx hb d_X_restoringChange_0 rfl (lv_at hl 0 rfl) ?_
  refine lv_lload_n hx hb d_X_restoringChange_1 rfl (lv_at hl 1 rfl) ?_
  refine W.lcmp hx hb d_X_restoringChange_2 ?_
  refine lv_if_eq (tgt := 8) hx hb d_X_restoringChange_3 (by decide) (fun c_3 => ?_) (fun c_3 => ?_)
  · have c_3 : x1 = x3 := (lg_cmp_eq _ _).mp c_3
    refine lv_lload_n hx hb d_X_restoringChange_8 rfl (lv_at hl 0 rfl) ?_
    refine lv_lconst (v := 0) hx hb d_X_restoringChange_9 (by decide) ?_
    refine W.lcmp hx hb d_X_restoringChange_10 ?_
    refine lv_if_ne (tgt := 20) hx hb d_X_restoringChange_11 (by decide) (fun c_11 => ?_) (fun c_11 => ?_)
    · have c_11 : ¬ x1 = 0 := fun q => c_11 ((lg_cmp_eq _ _).mpr q)
      refine lv_sipush (v := 2800) hx hb d_X_restoringChange_20 (by decide) ?_
      exact W.iret (v := 2800) hx hb hr (fun t ht hW => ⟨_, rfl, by (first | unfold fWC | unfold fCC | unfold fRS); (repeat' split) <;> first | rfl | contradiction, ht⟩) (fun _ h => absurd h List.not_mem_nil) d_X_restoringChange_23
    · have c_11 : x1 = 0 := (lg_cmp_eq _ _).mp c_11
      refine lv_sipush (v := 19900) hx hb d_X_restoringChange_14 (by decide) ?_
      refine lv_goto (tgt := 23) hx hb d_X_restoringChange_17 (by decide) ?_
      exact W.iret (v := 19900) hx hb hr (fun t ht hW => ⟨_, rfl, by (first | unfold fWC | unfold fCC | unfold fRS); (repeat' split) <;> first | rfl | contradiction, ht⟩) (fun _ h => absurd h List.not_mem_nil) d_X_restoringChange_23
  · have c_3 : ¬ x1 = x3 := fun q => c_3 ((lg_cmp_eq _ _).mpr q)
    refine lv_iconst (v := 0) hx hb d_X_restoringChange_6 (by decide) ?_
    exact W.iret (v := 0) hx hb hr (fun t ht hW => ⟨_, rfl, by (first | unfold fWC | unfold fCC | unfold fRS); (repeat' split) <;> first | rfl | contradiction, ht⟩) (fun _ h => absurd h List.not_mem_nil) d_X_restoringChange_7
set_option maxHeartbeats 4000000 in
set_option maxRecDepth 100000 in
theorem m_X_refundChange (l : Launch) (x1 : Int64) (x2 : Int64) (x3 : Int64) : Met l y_X_refundChange (w_X_refundChange :: TB) rA1 (fun v _ => v = ([.long x1, .long x2, .long x3] : List Value).toArray) (vp_Si (fun r => r = fRC x1 x2 x3)) 0 0 (fun _ => False) := by
  refine Met.ofW (cc := b_X_refundChange) (maxL := 6) (ret := some .int) (by decide) rfl ?_
  intro p e s m args below meth c s₁ B hml hv
  subst hv
  have hx := B.exec
  have hb := B.bytes
  have hr := B.returns
  have hts0 := atoms_spec (ws := w_X_refundChange :: TB) B.pre
  have hts := fun w (hw : w ∈ TB) => hts0 w (List.mem_cons_of_mem _ hw)
  have hown : s.vm.findClass RX = some m.cls := findClass_of_methodNamed B.named
  have hlocks := B.notSynchronized
  have hl := lv_entry ([.long x1, .long x2, .long x3]) (n := 6) (Nat.le_of_ble_eq_true rfl)
  rw [lg_entry_eq]
  generalize (lg_sl ([.long x1, .long x2, .long x3]) ++ List.replicate (6 - (lg_sl ([.long x1, .long x2, .long x3])).length) Slot.unset).toArray = ls at hl ⊢
  have hl : lv_has ls 6 [(0, .long x1), (2, .long x2), (4, .long x3)] := hl
  refine lv_lload hx hb d_X_refundChange_0 (lv_at hl 2 rfl) ?_
  refine lv_lload_n hx hb d_X_refundChange_2 rfl (lv_at hl 1 rfl) ?_
  refine W.lcmp hx hb d_X_refundChange_3 ?_
  refine lv_if_ne (tgt := 9) hx hb d_X_refundChange_4 (by decide) (fun c_4 => ?_) (fun c_4 => ?_)
  · have c_4 : ¬ x3 = x2 := fun q => c_4 ((lg_cmp_eq _ _).mpr q)
    refine lv_lload_n hx hb d_X_refundChange_9 rfl (lv_at hl 0 rfl) ?_
    refine lv_lload_n hx hb d_X_refundChange_10 rfl (lv_at hl 1 rfl) ?_
    refine W.lcmp hx hb d_X_refundChange_11 ?_
    refine lv_if_ne (tgt := 30) hx hb d_X_refundChange_12 (by decide) (fun c_12 => ?_) (fun c_12 => ?_)
    · have c_12 : ¬ x1 = x2 := fun q => c_12 ((lg_cmp_eq _ _).mpr q)
      refine lv_lload_n hx hb d_X_refundChange_30 rfl (lv_at hl 0 rfl) ?_
      refine lv_lload_n hx hb d_X_refundChange_31 rfl (lv_at hl 1 rfl) ?_
      refine lv_lload hx hb d_X_refundChange_32 (lv_at hl 2 rfl) ?_
      refine vp_callSi (W.runS (As := [.long x1, .long x2, .long x3]) (rest := []) ⟨hx, hb, hml, hown, hts⟩ (m_X_clearingChange l x1 x2 x3) (va_cwS 3 hts (TB_g3 kl_X_93 kt_X_clearingChange kz_X (TB_c kc_X_clearingChange)) rfl rfl rfl (by decide +kernel) ⟨Nat.le_of_ble_eq_true rfl, Nat.le_of_ble_eq_true rfl⟩) preEq rfl rfl hl.1 rfl (lv_room (Nat.le_of_ble_eq_true rfl)) d_X_refundChange_34 ⟨Nat.zero_le _, Nat.zero_le _⟩) (fun r1 hr1 => ?_)
      refine lv_lload_n hx hb d_X_refundChange_37 rfl (lv_at hl 0 rfl) ?_
      refine lv_lload hx hb d_X_refundChange_38 (lv_at hl 2 rfl) ?_
      refine vp_callSi (W.runS (As := [.long x1, .long x3]) (rest := [.int r1]) ⟨hx, hb, hml, hown, hts⟩ (m_X_restoringChange l x1 x3) (va_cwS 2 hts (TB_g3 kl_X_96 kt_X_restoringChange kz_X (TB_c kc_X_restoringChange)) rfl rfl rfl (by decide +kernel) ⟨Nat.le_of_ble_eq_true rfl, Nat.le_of_ble_eq_true rfl⟩) preEq rfl rfl hl.1 rfl (lv_room (Nat.le_of_ble_eq_true rfl)) d_X_refundChange_40 ⟨Nat.zero_le _, Nat.zero_le _⟩) (fun r2 hr2 => ?_)
      refine lv_iadd hx hb d_X_refundChange_43 ?_
      exact W.iret (v := (r1) + (r2)) hx hb hr (fun t ht hW => ⟨_, rfl, by unfold fRC; (repeat' split) <;> first | rfl | contradiction | rw [hr1, hr2], ht⟩) (fun _ h => absurd h List.not_mem_nil) d_X_refundChange_44
    · have c_12 : x1 = x2 := (lg_cmp_eq _ _).mp c_12
      refine lv_lload hx hb d_X_refundChange_15 (lv_at hl 2 rfl) ?_
      refine lv_lconst (v := 0) hx hb d_X_refundChange_17 (by decide) ?_
      refine W.lcmp hx hb d_X_refundChange_18 ?_
      refine lv_if_ne (tgt := 28) hx hb d_X_refundChange_19 (by decide) (fun c_19 => ?_) (fun c_19 => ?_)
      · have c_19 : ¬ x3 = 0 := fun q => c_19 ((lg_cmp_eq _ _).mpr q)
        refine lv_iconst (v := 0) hx hb d_X_refundChange_28 (by decide) ?_
        exact W.iret (v := 0) hx hb hr (fun t ht hW => ⟨_, rfl, by unfold fRC; (repeat' split) <;> first | rfl | contradiction | rw [hr1, hr2], ht⟩) (fun _ h => absurd h List.not_mem_nil) d_X_refundChange_29
      · have c_19 : x3 = 0 := (lg_cmp_eq _ _).mp c_19
        refine lv_sipush (v := 15000) hx hb d_X_refundChange_22 (by decide) ?_
        refine lv_goto (tgt := 29) hx hb d_X_refundChange_25 (by decide) ?_
        exact W.iret (v := 15000) hx hb hr (fun t ht hW => ⟨_, rfl, by unfold fRC; (repeat' split) <;> first | rfl | contradiction | rw [hr1, hr2], ht⟩) (fun _ h => absurd h List.not_mem_nil) d_X_refundChange_29
  · have c_4 : x3 = x2 := (lg_cmp_eq _ _).mp c_4
    refine lv_iconst (v := 0) hx hb d_X_refundChange_7 (by decide) ?_
    exact W.iret (v := 0) hx hb hr (fun t ht hW => ⟨_, rfl, by unfold fRC; (repeat' split) <;> first | rfl | contradiction | rw [hr1, hr2], ht⟩) (fun _ h => absurd h List.not_mem_nil) d_X_refundChange_8
theorem bc_shr {n : Nat} (hn : n < 2 ^ 64) {k : Nat} (hk : k < 64) {y : Int32} (hy : y = nI k := by rfl) : ((lN n).toUInt64 >>> (y.toInt64.toUInt64 &&& Int64.toUInt64 63)).toInt64 = lN (n / 2 ^ k) := by
  rw [hy]; exact wb_shr hn hk
theorem bc_and {a b : Nat} (ha : a < 2 ^ 64) (hb : b < 2 ^ 64) {y : Int64} (hy : y = lN b := by rfl) : lN a &&& y = lN (a &&& b) := by
  rw [hy]; exact wb_and ha hb
theorem bc_end {v n : Nat} (h1 : v < 2 ^ 64) (h2 : v % 128 = n) : (lN v).toInt32 &&& 127 = nI n := by
  rw [lN_i, pk_and (nI v) 7 (by decide)]
  have e : (nI v).toBitVec.toNat = v % 2 ^ 32 := by
    show (BitVec.ofNat 32 v).toNat = _
    rw [BitVec.toNat_ofNat]
  rw [e, ← h2]
  congr 1
  omega
set_option maxHeartbeats 4000000 in
set_option maxRecDepth 100000 in
theorem m_J_bitCount (l : Launch) (n : Nat) (hn : n < 2 ^ 64) : Met l y_J_bitCount (w_J_bitCount :: TB) rA0 (fun v _ => v = ([.long (lN n)] : List Value).toArray) (vp_Si (fun r => r = nI (pz_n n 64))) 0 0 (fun _ => False) := by
  refine Met.ofW (cc := b_J_bitCount) (maxL := 2) (ret := some .int) (by decide) rfl ?_
  intro p e s m args below meth c s₁ B hml hv
  subst hv
  have hx := B.exec
  have hb := B.bytes
  have hr := B.returns
  have hts0 := atoms_spec (ws := w_J_bitCount :: TB) B.pre
  have hts := fun w (hw : w ∈ TB) => hts0 w (List.mem_cons_of_mem _ hw)
  have hown : s.vm.findClass RJ = some m.cls := findClass_of_methodNamed B.named
  have hlocks := B.notSynchronized
  have hl := lv_entry ([.long (lN n)]) (n := 2) (Nat.le_of_ble_eq_true rfl)
  rw [lg_entry_eq]
  generalize (lg_sl ([.long (lN n)]) ++ List.replicate (2 - (lg_sl ([.long (lN n)])).length) Slot.unset).toArray = ls at hl ⊢
  have hl : lv_has ls 2 [(0, .long (lN n))] := hl
  obtain ⟨v1, h1⟩ : ∃ v, v = n - ((n / 2) &&& 6148914691236517205) := ⟨_, rfl⟩
  obtain ⟨v2, h2⟩ : ∃ v, v = (v1 &&& 3689348814741910323) + ((v1 / 4) &&& 3689348814741910323) := ⟨_, rfl⟩
  obtain ⟨v3, h3⟩ : ∃ v, v = (v2 + v2 / 16) &&& 1085102592571150095 := ⟨_, rfl⟩
  obtain ⟨v4, h4⟩ : ∃ v, v = v3 + v3 / 256 := ⟨_, rfl⟩
  obtain ⟨v5, h5⟩ : ∃ v, v = v4 + v4 / 65536 := ⟨_, rfl⟩
  obtain ⟨q1, q2, q3⟩ := pz_all hn h1 h2 h3 h4 h5
  have b1 : v1 < 2 ^ 64 := by omega
  have b3 : v3 < 2 ^ 64 := by rw [h3]; exact Nat.lt_of_le_of_lt Nat.and_le_right (by decide)
  have b2x : v2 ≤ 7378697629483820646 := by
    have z1 : v1 &&& 3689348814741910323 ≤ 3689348814741910323 := Nat.and_le_right
    have z2 : (v1 / 4) &&& 3689348814741910323 ≤ 3689348814741910323 := Nat.and_le_right
    omega
  have b2 : v2 < 2 ^ 64 := by omega
  have b5 : v5 < 2 ^ 64 := by omega
  have b4 : v4 < 2 ^ 64 := by omega
  refine lv_lload_n hx hb d_J_bitCount_0 rfl (lv_at hl 0 rfl) ?_
  refine lv_lload_n hx hb d_J_bitCount_1 rfl (lv_at hl 0 rfl) ?_
  refine lv_iconst (v := 1) hx hb d_J_bitCount_2 (by decide) ?_
  refine lv_lushr hx hb d_J_bitCount_3 rfl ?_
  refine lv_ldc2 hx hb hown (hts _ kd_J_314) d_J_bitCount_4 ?_
  refine lv_land hx hb d_J_bitCount_7 ?_
  refine lv_lsub hx hb d_J_bitCount_8 ?_
  refine lv_topl (fun s1 es1 => ?_)
  have es : s1 = lN v1 := by rw [es1, bc_shr hn (k := 1) (by decide), bc_and (b := 6148914691236517205) (by omega) (by decide), lN_sub q1, h1]
  subst es
  refine lv_lstore_n (lv' := [(0, .long (lN v1))]) hx hb d_J_bitCount_9 rfl hl (by decide) rfl (fun ls hl => ?_)
  refine lv_lload_n hx hb d_J_bitCount_10 rfl (lv_at hl 0 rfl) ?_
  refine lv_ldc2 hx hb hown (hts _ kd_J_316) d_J_bitCount_11 ?_
  refine lv_land hx hb d_J_bitCount_14 ?_
  refine lv_lload_n hx hb d_J_bitCount_15 rfl (lv_at hl 0 rfl) ?_
  refine lv_iconst (v := 2) hx hb d_J_bitCount_16 (by decide) ?_
  refine lv_lushr hx hb d_J_bitCount_17 rfl ?_
  refine lv_ldc2 hx hb hown (hts _ kd_J_316) d_J_bitCount_18 ?_
  refine lv_land hx hb d_J_bitCount_21 ?_
  refine lv_ladd hx hb d_J_bitCount_22 ?_
  refine lv_topl (fun s2 es2 => ?_)
  have es : s2 = lN v2 := by rw [es2, bc_shr b1 (k := 2) (by decide), bc_and (b := 3689348814741910323) b1 (by decide), bc_and (b := 3689348814741910323) (by omega) (by decide), lN_add, h2]
  subst es
  refine lv_lstore_n (lv' := [(0, .long (lN v2))]) hx hb d_J_bitCount_23 rfl hl (by decide) rfl (fun ls hl => ?_)
  refine lv_lload_n hx hb d_J_bitCount_24 rfl (lv_at hl 0 rfl) ?_
  refine lv_lload_n hx hb d_J_bitCount_25 rfl (lv_at hl 0 rfl) ?_
  refine lv_iconst (v := 4) hx hb d_J_bitCount_26 (by decide) ?_
  refine lv_lushr hx hb d_J_bitCount_27 rfl ?_
  refine lv_ladd hx hb d_J_bitCount_28 ?_
  refine lv_ldc2 hx hb hown (hts _ kd_J_318) d_J_bitCount_29 ?_
  refine lv_land hx hb d_J_bitCount_32 ?_
  refine lv_topl (fun s3 es3 => ?_)
  have es : s3 = lN v3 := by rw [es3, bc_shr b2 (k := 4) (by decide), lN_add, bc_and (b := 1085102592571150095) (by omega) (by decide), h3]
  subst es
  refine lv_lstore_n (lv' := [(0, .long (lN v3))]) hx hb d_J_bitCount_33 rfl hl (by decide) rfl (fun ls hl => ?_)
  refine lv_lload_n hx hb d_J_bitCount_34 rfl (lv_at hl 0 rfl) ?_
  refine lv_lload_n hx hb d_J_bitCount_35 rfl (lv_at hl 0 rfl) ?_
  refine lv_bipush (v := 8) hx hb d_J_bitCount_36 (by decide) ?_
  refine lv_lushr hx hb d_J_bitCount_38 rfl ?_
  refine lv_ladd hx hb d_J_bitCount_39 ?_
  refine lv_topl (fun s4 es4 => ?_)
  have es : s4 = lN v4 := by rw [es4, bc_shr b3 (k := 8) (by decide), lN_add, h4]
  subst es
  refine lv_lstore_n (lv' := [(0, .long (lN v4))]) hx hb d_J_bitCount_40 rfl hl (by decide) rfl (fun ls hl => ?_)
  refine lv_lload_n hx hb d_J_bitCount_41 rfl (lv_at hl 0 rfl) ?_
  refine lv_lload_n hx hb d_J_bitCount_42 rfl (lv_at hl 0 rfl) ?_
  refine lv_bipush (v := 16) hx hb d_J_bitCount_43 (by decide) ?_
  refine lv_lushr hx hb d_J_bitCount_45 rfl ?_
  refine lv_ladd hx hb d_J_bitCount_46 ?_
  refine lv_topl (fun s5 es5 => ?_)
  have es : s5 = lN v5 := by rw [es5, bc_shr b4 (k := 16) (by decide), lN_add, h5]
  subst es
  refine lv_lstore_n (lv' := [(0, .long (lN v5))]) hx hb d_J_bitCount_47 rfl hl (by decide) rfl (fun ls hl => ?_)
  refine lv_lload_n hx hb d_J_bitCount_48 rfl (lv_at hl 0 rfl) ?_
  refine lv_lload_n hx hb d_J_bitCount_49 rfl (lv_at hl 0 rfl) ?_
  refine lv_bipush (v := 32) hx hb d_J_bitCount_50 (by decide) ?_
  refine lv_lushr hx hb d_J_bitCount_52 rfl ?_
  refine lv_ladd hx hb d_J_bitCount_53 ?_
  refine lv_topl (fun s6 es6 => ?_)
  have es : s6 = lN (v5 + v5 / 4294967296) := by rw [es6, bc_shr b5 (k := 32) (by decide), lN_add]
  subst es
  refine lv_lstore_n (lv' := [(0, .long (lN (v5 + v5 / 4294967296)))]) hx hb d_J_bitCount_54 rfl hl (by decide) rfl (fun ls hl => ?_)
  refine lv_lload_n hx hb d_J_bitCount_55 rfl (lv_at hl 0 rfl) ?_
  refine lv_l2i hx hb d_J_bitCount_56 rfl ?_
  refine lv_bipush (v := 127) hx hb d_J_bitCount_57 (by decide) ?_
  refine lv_iand hx hb d_J_bitCount_59 ?_
  exact W.iret (v := (((lN (v5 + v5 / 4294967296)) : Int64).toInt32) &&& (127)) hx hb hr (fun t ht hW => ⟨_, rfl, bc_end q2 q3, ht⟩) (fun _ h => absurd h List.not_mem_nil) d_J_bitCount_60
