/-! the law: its loop -/
set_option maxHeartbeats 4000000 in
set_option maxRecDepth 100000 in
theorem law_loop {p : Program} {l : Launch} {e : Env} {s : State} {m : MethodId} {below : List Frame} {meth : Method} {c : Code} {D : va_G} {k : Nat → ClassId} {a b : Nat → Nat} {q0 b0 L : Nat} {xs : Nat → Int32} (hl0 : l.stackTraces = false) (hL : L ≤ 3072) (C0 : lw_At p s m meth c b0 L xs) (hK : va_K D wCl (tyL k) s) (hE : EV (fun q : Nat => s.heap.size ≤ q) s) {c0 s0 : Nat} (hc0 : c0 ≤ 1000) (hs0 : s0 ≤ 100000) : ∀ (q i : Nat), i ≤ 512 → 513 ≤ i + q → lwS p l e s m below meth c D k a b q0 b0 (6 * i) 23 (c0 + 2 * i) (s0 + 12 * i) := by
  intro q
  induction q with
  | zero => intro i h1 h2; exact absurd h2 (by omega)
  | succ q ih =>
    intro i hi hiq
    have C1 := C0
    obtain ⟨hx, hb, hr, hml, hown, hts0, hX, hbl, hlocks, hgv⟩ := C1
    have hbA : ¬ (fun q : Nat => s.heap.size ≤ q) b0 := Nat.not_le.mpr hbl
    intro d F V M R f r N G t KR K T O H locs ls hI hP hD hS hl
    refine lv_iload hx hb d_L_law_23 (lv_at hl 4 rfl) ?_
    refine lv_aload_n hx hb d_L_law_25 rfl (lv_at hl 0 rfl) ?_
    refine va_slen hx hb hX hbl hbA hS d_L_law_26 ?_
    refine W.eq (g2 := F0 m 27 ls [.int (nI L), .int (nI (6 * i))]) rfl ?_
    refine lv_bipush (v := 6) hx hb d_L_law_27 (by decide) ?_
    refine lv_isub hx hb d_L_law_29 ?_
    refine lv_icmp_gt (tgt := 641) hx hb d_L_law_30 (by decide) (fun c_30 => ?_) (fun c_30 => ?_)
    · refine lv_iconst (v := 1) hx hb d_L_law_641 (by decide) ?_
      refine va_forget (fun q hq => hS.2.2 q hq) ?_
      refine W.widen (k := 601024) (n := 7293034) (by omega) (by omega) ?_
      exact lw_ret hx hb hr hlocks d_L_law_642
    · have hle : 6 * i + 6 ≤ L := by
        rcases Nat.lt_or_ge L (6 * i + 6) with h | h
        · refine absurd ?_ c_30
          rw [Int32.lt_iff_toInt_lt]
          have e1 : ((nI L) - (6 : Int32)).toInt = (L : Int) - 6 := pk_sub_toInt (b := 6) (by omega) (by decide)
          rw [e1, nI_toInt (show 6 * i < 2 ^ 31 by omega)]
          omega
        · exact h
      have kk : lwS p l e s m below meth c D k a b q0 b0 (6 * i) 635 (c0 + 2 * i + 2) (s0 + 12 * i + 12) := by
        intro d F V M R f r N G t KR K T O H locs ls hI hP hD hS hl
        refine lv_iinc (v := (nI (6 * i)) + 6) (lv' := [(4, .int ((nI (6 * i)) + 6)), (0, .ref b0), (1, .ref (a 0)), (2, .ref (b 0)), (3, .ref q0)]) hx hb d_L_law_635 hl (k := 4) rfl rfl (by decide) rfl (fun ls hl => ?_)
        refine lv_goto (tgt := 23) hx hb d_L_law_638 (by decide) ?_
        have e1 : nI (6 * i) + 6 = nI (6 * (i + 1)) := (nI_add (6 * i) 6).trans (by rw [Nat.mul_succ])
        rw [e1] at hl
        exact ih (i + 1) (by omega) (by omega) d F V M R f r N G t KR K T O H locs ls hI hP hD hS (lv_sub hl [1, 2, 3, 4, 0] rfl)
      refine lv_aload_n hx hb d_L_law_33 rfl (lv_at hl 0 rfl) ?_
      refine lv_iload hx hb d_L_law_34 (lv_at hl 4 rfl) ?_
      refine va_sld hx hb hX hbl hbA hS (vp_in_nI (show 6 * i < L by omega) (by omega)) d_L_law_36 ?_
      refine lv_topi (fun s0v es0 => ?_)
      refine lv_bipush (v := 7) hx hb d_L_law_37 (by decide) ?_
      refine lv_iand hx hb d_L_law_39 ?_
      obtain ⟨j, hj, ej⟩ := pk_andE s0v (m := 7) 3 (by decide)
      rw [ej]
      have hj : j < 8 := hj
      rcases (show j = 0 ∨ j = 1 ∨ j = 2 ∨ j = 3 ∨ j = 4 ∨ j = 5 ∨ j = 6 ∨ j = 7 by omega) with rfl | rfl | rfl | rfl | rfl | rfl | rfl | rfl
      · refine lv_tableIn (tgt := 88) hx hb d_L_law_40 (by decide) (by decide) rfl (by decide) ?_
        exact law_begin hl0 hL C0 hK hE hle (by omega) (by omega) kk d F V M R f r N G t KR K T O H locs ls hI hP hD hS (lv_sub hl [0, 1, 2, 3, 4] rfl)
      · refine lv_tableIn (tgt := 101) hx hb d_L_law_40 (by decide) (by decide) rfl (by decide) ?_
        exact law_open hl0 hL C0 hK hE hle (by omega) (by omega) kk d F V M R f r N G t KR K T O H locs ls hI hP hD hS (lv_sub hl [0, 1, 2, 3, 4] rfl)
      · refine lv_tableIn (tgt := 145) hx hb d_L_law_40 (by decide) (by decide) rfl (by decide) ?_
        exact law_close hl0 hL C0 hK hE hle (by omega) (by omega) kk d F V M R f r N G t KR K T O H locs ls hI hP hD hS (lv_sub hl [0, 1, 2, 3, 4] rfl)
      · refine lv_tableIn (tgt := 217) hx hb d_L_law_40 (by decide) (by decide) rfl (by decide) ?_
        exact law_load hl0 hL C0 hK hE hle (by omega) (by omega) kk d F V M R f r N G t KR K T O H locs ls hI hP hD hS (lv_sub hl [0, 1, 2, 3, 4] rfl)
      · refine lv_tableIn (tgt := 285) hx hb d_L_law_40 (by decide) (by decide) rfl (by decide) ?_
        exact law_store hl0 hL C0 hK hE hle (by omega) (by omega) kk d F V M R f r N G t KR K T O H locs ls hI hP hD hS (lv_sub hl [0, 1, 2, 3, 4] rfl)
      · refine lv_tableIn (tgt := 409) hx hb d_L_law_40 (by decide) (by decide) rfl (by decide) ?_
        exact law_held hl0 hL C0 hK hE hle (by omega) (by omega) kk d F V M R f r N G t KR K T O H locs ls hI hP hD hS (lv_sub hl [0, 1, 2, 3, 4] rfl)
      · refine lv_tableIn (tgt := 504) hx hb d_L_law_40 (by decide) (by decide) rfl (by decide) ?_
        exact law_touched hl0 hL C0 hK hE hle (by omega) (by omega) kk d F V M R f r N G t KR K T O H locs ls hI hP hD hS (lv_sub hl [0, 1, 2, 3, 4] rfl)
      · refine lv_tableIn (tgt := 579) hx hb d_L_law_40 (by decide) (by decide) rfl (by decide) ?_
        exact law_count hl0 hL C0 hK hE hle (by omega) (by omega) kk d F V M R f r N G t KR K T O H locs ls hI hP hD hS (lv_sub hl [0, 1, 2, 3, 4] rfl)
