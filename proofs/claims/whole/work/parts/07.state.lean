/-! what a state is: the cells of the class's object, of the reference's object; the surroundings; how they move -/
/-- a stretch of cells -/
def rg (n : Nat) (f : Nat → Nat × va_E) : va_W := (List.range n).map f
theorem rg_len (n : Nat) (f : Nat → Nat × va_E) : (rg n f).length = n := by simp [rg]
theorem rg_at {n : Nat} (f : Nat → Nat × va_E) {i : Nat} (h : i < n) : (rg n f)[i]? = some (f i) := by simp [rg, h]
theorem rg_set {n : Nat} {f : Nat → Nat × va_E} {i : Nat} {q : Nat × va_E} (g : Nat → Nat × va_E) (hg : ∀ j, g j = if j = i then q else f j) : (rg n f).set i q = rg n g := by
  apply List.ext_getElem?
  intro j
  by_cases hj : j = i
  · subst hj
    by_cases hl : j < n
    · rw [List.getElem?_set_self (by rw [rg_len]; exact hl), rg_at g hl, hg, if_pos rfl]
    · rw [List.getElem?_eq_none (by rw [List.length_set, rg_len]; omega), List.getElem?_eq_none (by rw [rg_len]; omega)]
  · rw [List.getElem?_set_ne (Ne.symm hj)]
    by_cases hl : j < n
    · rw [rg_at f hl, rg_at g hl, hg, if_neg hj]
    · rw [List.getElem?_eq_none (by rw [rg_len]; omega), List.getElem?_eq_none (by rw [rg_len]; omega)]
/-- the object of the class, its firsts, its states, and of each state the object, the values, the marks -/
abbrev WX (k : Nat → ClassId) (a : Nat → Nat) (d : Int32) (F : Nat → Int64) (V M : Nat → Nat → Int64) (R : Nat → Int32) : va_W :=
  (a 0, .inr (1, [.ref (a 1), .ref (a 2), .int d])) :: (a 1, .inl (k 0, 256, .inr (.inl F))) :: (a 2, .inl (k 1, 31, .inr (.inr (.inr (.inr (fun i => some (a (3 + i)))))))) ::
  (rg 31 (fun i => (a (3 + i), .inr (0, [.ref (a (34 + i)), .ref (a (65 + i)), .int (R i)]))) ++ (rg 31 (fun i => (a (34 + i), .inl (k 0, 256, .inr (.inl (V i))))) ++ rg 31 (fun i => (a (65 + i), .inl (k 0, 4, .inr (.inl (M i)))))))
theorem wx_s {k : Nat → ClassId} {a : Nat → Nat} {d : Int32} {F : Nat → Int64} {V M : Nat → Nat → Int64} {R : Nat → Int32} {i : Nat} (h : i < 31) : (WX k a d F V M R)[i + 3]? = some (a (3 + i), .inr (0, [.ref (a (34 + i)), .ref (a (65 + i)), .int (R i)])) := by
  show (rg 31 _ ++ _)[i]? = _
  rw [List.getElem?_append_left (by rw [rg_len]; exact h), rg_at _ h]
theorem wx_v {k : Nat → ClassId} {a : Nat → Nat} {d : Int32} {F : Nat → Int64} {V M : Nat → Nat → Int64} {R : Nat → Int32} {i : Nat} (h : i < 31) : (WX k a d F V M R)[i + 34]? = some (a (34 + i), .inl (k 0, 256, .inr (.inl (V i)))) := by
  show (rg 31 _ ++ (rg 31 _ ++ _))[i + 31]? = _
  rw [List.getElem?_append_right (by rw [rg_len]; omega), rg_len, Nat.add_sub_cancel, List.getElem?_append_left (by rw [rg_len]; exact h), rg_at _ h]
theorem wx_m {k : Nat → ClassId} {a : Nat → Nat} {d : Int32} {F : Nat → Int64} {V M : Nat → Nat → Int64} {R : Nat → Int32} {i : Nat} (h : i < 31) : (WX k a d F V M R)[i + 65]? = some (a (65 + i), .inl (k 0, 4, .inr (.inl (M i)))) := by
  show (rg 31 (fun i => (a (3 + i), .inr (0, [.ref (a (34 + i)), .ref (a (65 + i)), .int (R i)]))) ++ (rg 31 (fun i => (a (34 + i), .inl (k 0, 256, .inr (.inl (V i))))) ++ rg 31 (fun i => (a (65 + i), .inl (k 0, 4, .inr (.inl (M i)))))))[i + 62]? = _
  rw [List.getElem?_append_right (by rw [rg_len]; omega), rg_len, show i + 62 - 31 = i + 31 by omega, List.getElem?_append_right (by rw [rg_len]; omega), rg_len, Nat.add_sub_cancel, rg_at _ h]
theorem wx_setR {k : Nat → ClassId} {a : Nat → Nat} {d : Int32} {F : Nat → Int64} {V M : Nat → Nat → Int64} {R : Nat → Int32} {i : Nat} {r : Int32} (h : i < 31) : (WX k a d F V M R).set (i + 3) (a (3 + i), .inr (0, [.ref (a (34 + i)), .ref (a (65 + i)), .int r])) = WX k a d F V M (va_up R i r) := by
  show _ :: _ :: _ :: (rg 31 _ ++ _).set i _ = _
  rw [List.set_append_left _ _ (by rw [rg_len]; exact h), rg_set (fun j => (a (3 + j), .inr (0, [.ref (a (34 + j)), .ref (a (65 + j)), .int (va_up R i r j)]))) (fun j => by by_cases q : j = i <;> simp [va_up, q])]
theorem wx_setV {k : Nat → ClassId} {a : Nat → Nat} {d : Int32} {F : Nat → Int64} {V M : Nat → Nat → Int64} {R : Nat → Int32} {i : Nat} {f : Nat → Int64} (h : i < 31) : (WX k a d F V M R).set (i + 34) (a (34 + i), .inl (k 0, 256, .inr (.inl f))) = WX k a d F (va_up V i f) M R := by
  show _ :: _ :: _ :: (rg 31 _ ++ (rg 31 _ ++ _)).set (i + 31) _ = _
  rw [List.set_append_right _ _ (by rw [rg_len]; omega), rg_len, Nat.add_sub_cancel, List.set_append_left _ _ (by rw [rg_len]; exact h), rg_set (fun j => (a (34 + j), .inl (k 0, 256, .inr (.inl (va_up V i f j))))) (fun j => by by_cases q : j = i <;> simp [va_up, q])]
theorem wx_setM {k : Nat → ClassId} {a : Nat → Nat} {d : Int32} {F : Nat → Int64} {V M : Nat → Nat → Int64} {R : Nat → Int32} {i : Nat} {f : Nat → Int64} (h : i < 31) : (WX k a d F V M R).set (i + 65) (a (65 + i), .inl (k 0, 4, .inr (.inl f))) = WX k a d F V (va_up M i f) R := by
  show _ :: _ :: _ :: (rg 31 _ ++ (rg 31 _ ++ rg 31 _)).set (i + 62) _ = _
  rw [List.set_append_right _ _ (by rw [rg_len]; omega), rg_len, show i + 62 - 31 = i + 31 by omega, List.set_append_right _ _ (by rw [rg_len]; omega), rg_len, Nat.add_sub_cancel, rg_set (fun j => (a (65 + j), .inl (k 0, 4, .inr (.inl (va_up M i f j))))) (fun j => by by_cases q : j = i <;> simp [va_up, q])]
/-- the reference's object, its arrays, the rows of its two arrays of rows -/
abbrev WM (k : Nat → ClassId) (b : Nat → Nat) (f r d : Int32) (N F : Nat → Int64) (U KR : Nat → Int32) (K : Nat → Nat → Int64) (KT : Nat → Nat → Int32) : va_W :=
  (b 0, .inr (2, [.int f, .ref (b 1), .ref (b 2), .ref (b 3), .ref (b 4), .ref (b 5), .ref (b 6), .int r, .int d])) :: (b 1, .inl (k 2, 31, .inr (.inr (.inr (.inr (fun i => some (b (7 + i)))))))) :: (b 2, .inl (k 3, 31, .inr (.inr (.inr (.inr (fun i => some (b (38 + i)))))))) ::
  (b 3, .inl (k 4, 31, .inl KR)) :: (b 4, .inl (k 0, 256, .inr (.inl N))) :: (b 5, .inl (k 0, 256, .inr (.inl F))) :: (b 6, .inl (k 5, 256, .inl U)) ::
  (rg 31 (fun i => (b (7 + i), .inl (k 0, 256, .inr (.inl (K i))))) ++ rg 31 (fun i => (b (38 + i), .inl (k 5, 256, .inl (KT i)))))
theorem wm_k {k : Nat → ClassId} {b : Nat → Nat} {f r d : Int32} {N F : Nat → Int64} {U KR : Nat → Int32} {K : Nat → Nat → Int64} {KT : Nat → Nat → Int32} {i : Nat} (h : i < 31) : (WM k b f r d N F U KR K KT)[i + 7]? = some (b (7 + i), .inl (k 0, 256, .inr (.inl (K i)))) := by
  show (rg 31 _ ++ _)[i]? = _
  rw [List.getElem?_append_left (by rw [rg_len]; exact h), rg_at _ h]
theorem wm_t {k : Nat → ClassId} {b : Nat → Nat} {f r d : Int32} {N F : Nat → Int64} {U KR : Nat → Int32} {K : Nat → Nat → Int64} {KT : Nat → Nat → Int32} {i : Nat} (h : i < 31) : (WM k b f r d N F U KR K KT)[i + 38]? = some (b (38 + i), .inl (k 5, 256, .inl (KT i))) := by
  show (rg 31 _ ++ rg 31 _)[i + 31]? = _
  rw [List.getElem?_append_right (by rw [rg_len]; omega), rg_len, Nat.add_sub_cancel, rg_at _ h]
theorem wm_setK {k : Nat → ClassId} {b : Nat → Nat} {f r d : Int32} {N F : Nat → Int64} {U KR : Nat → Int32} {K : Nat → Nat → Int64} {KT : Nat → Nat → Int32} {i : Nat} {g : Nat → Int64} (h : i < 31) : (WM k b f r d N F U KR K KT).set (i + 7) (b (7 + i), .inl (k 0, 256, .inr (.inl g))) = WM k b f r d N F U KR (va_up K i g) KT := by
  show _ :: _ :: _ :: _ :: _ :: _ :: _ :: (rg 31 _ ++ _).set i _ = _
  rw [List.set_append_left _ _ (by rw [rg_len]; exact h), rg_set (fun j => (b (7 + j), .inl (k 0, 256, .inr (.inl (va_up K i g j))))) (fun j => by by_cases q : j = i <;> simp [va_up, q])]
theorem wm_setT {k : Nat → ClassId} {b : Nat → Nat} {f r d : Int32} {N F : Nat → Int64} {U KR : Nat → Int32} {K : Nat → Nat → Int64} {KT : Nat → Nat → Int32} {i : Nat} {g : Nat → Int32} (h : i < 31) : (WM k b f r d N F U KR K KT).set (i + 38) (b (38 + i), .inl (k 5, 256, .inl g)) = WM k b f r d N F U KR K (va_up KT i g) := by
  show _ :: _ :: _ :: _ :: _ :: _ :: _ :: (rg 31 _ ++ rg 31 _).set (i + 31) _ = _
  rw [List.set_append_right _ _ (by rw [rg_len]; omega), rg_len, Nat.add_sub_cancel, rg_set (fun j => (b (38 + j), .inl (k 5, 256, .inl (va_up KT i g j)))) (fun j => by by_cases q : j = i <;> simp [va_up, q])]
/-- worlds at the same places -/
theorem va_D.ad {A : Nat → Prop} {ws ws' : va_W} (h : va_D A ws) (e : ws'.map Prod.fst = ws.map Prod.fst) : va_D A ws' := by
  have key : ∀ (i : Nat) (q : Nat × va_E), ws'[i]? = some q → ∃ q0, ws[i]? = some q0 ∧ q0.1 = q.1 := by
    intro i q hq
    have h1 : (ws'.map Prod.fst)[i]? = some q.1 := by rw [List.getElem?_map, hq]; rfl
    rw [e, List.getElem?_map] at h1
    cases h2 : ws[i]? with
    | none => rw [h2] at h1; cases h1
    | some q0 => rw [h2] at h1; exact ⟨q0, rfl, Option.some.inj h1⟩
  refine ⟨fun i j x y hi hj hxy => ?_, fun i q hq => ?_⟩
  · obtain ⟨x0, h1, h2⟩ := key i x hi
    obtain ⟨y0, h3, h4⟩ := key j y hj
    exact h.1 i j x0 y0 h1 h3 (h2.trans (hxy.trans h4.symm))
  · obtain ⟨q0, h1, h2⟩ := key i q hq
    rw [← h2]
    exact h.2 i q0 h1
theorem wx_ad {k : Nat → ClassId} {a : Nat → Nat} {d d' : Int32} {F F' : Nat → Int64} {V M V' M' : Nat → Nat → Int64} {R R' : Nat → Int32} : (WX k a d F V M R).map Prod.fst = (WX k a d' F' V' M' R').map Prod.fst := by
  simp only [List.map_cons, List.map_append, rg, List.map_map]
  rfl
theorem wm_ad {k : Nat → ClassId} {b : Nat → Nat} {f r d f' r' d' : Int32} {N F N' F' : Nat → Int64} {U KR U' KR' : Nat → Int32} {K K' : Nat → Nat → Int64} {KT KT' : Nat → Nat → Int32} : (WM k b f r d N F U KR K KT).map Prod.fst = (WM k b f' r' d' N' F' U' KR' K' KT').map Prod.fst := by
  simp only [List.map_cons, List.map_append, rg, List.map_map]
  rfl
/-- a world within a larger one: cut out, and put back at the same places -/
theorem cut_P {D : va_G} {cl : List vw_C} {a w b : va_W} {H : Heap} (h : va_P D cl (a ++ (w ++ b)) H) : va_P D cl w H := fun k q hk => by
  have hl := (List.getElem?_eq_some_iff.mp hk).1
  refine h (a.length + k) q ?_
  rw [List.getElem?_append_right (by omega), Nat.add_sub_cancel_left, List.getElem?_append_left hl]
  exact hk
theorem cut_D {A : Nat → Prop} {a w b : va_W} (h : va_D A (a ++ (w ++ b))) : va_D A w := by
  have key : ∀ (k : Nat) (q : Nat × va_E), w[k]? = some q → (a ++ (w ++ b))[a.length + k]? = some q := fun k q hk => by
    have hl := (List.getElem?_eq_some_iff.mp hk).1
    rw [List.getElem?_append_right (by omega), Nat.add_sub_cancel_left, List.getElem?_append_left hl]
    exact hk
  exact ⟨fun i j x y hi hj hxy => by have := h.1 _ _ x y (key i x hi) (key j y hj) hxy; omega, fun k q hk => h.2 _ q (key k q hk)⟩
theorem cut_F {A0 : Nat → Prop} {w : va_W} {H0 H : Heap} {locs : List Loc} (hD : va_D A0 w) (hS : va_S A0 H0 H locs) (hA : ∀ q, H0.size ≤ q → A0 q) : ∀ q, va_A w H.size q → A0 q := by
  intro q h
  rcases h with ⟨k, e, h⟩ | h
  · exact hD.2 k (q, e) h
  · exact hA q (Nat.le_trans hS.1 h)
theorem cut_J {A0 : Nat → Prop} {D : va_G} {cl : List vw_C} {a w b w1 : va_W} {H H1 : Heap} (hP : va_P D cl (a ++ (w ++ b)) H) (hD : va_D A0 (a ++ (w ++ b))) (hk : ∀ q : Nat, q < H.size → ¬ va_A w H.size q → H1[q]? = H[q]?) (hP1 : va_P D cl w1 H1) (e : w1.map Prod.fst = w.map Prod.fst) :
    va_P D cl (a ++ (w1 ++ b)) H1 ∧ va_D A0 (a ++ (w1 ++ b)) := by
  have hlen : w1.length = w.length := by
    have := congrArg List.length e
    simpa using this
  have hin : ∀ (i : Nat) (q : Nat × va_E), w[i]? = some q → (a ++ (w ++ b))[a.length + i]? = some q := fun k q hk => by
    have hl := (List.getElem?_eq_some_iff.mp hk).1
    rw [List.getElem?_append_right (by omega), Nat.add_sub_cancel_left, List.getElem?_append_left hl]
    exact hk
  have keep : ∀ (i : Nat) (q : Nat × va_E), (i < a.length ∨ a.length + w.length ≤ i) → (a ++ (w ++ b))[i]? = some q → va_at D cl q H1 := by
    intro i q hi hq
    have hat := hP i q hq
    refine hat.kept (hk q.1 hat.lt (fun hA => ?_))
    rcases hA with ⟨j, x, hj⟩ | hA
    · have hjl := (List.getElem?_eq_some_iff.mp hj).1
      have := hD.1 i (a.length + j) q (q.1, x) hq (hin j _ hj) rfl
      omega
    · have := hat.lt
      omega
  refine ⟨fun i q hq => ?_, hD.ad (by simp only [List.map_append, e])⟩
  by_cases h1 : i < a.length
  · rw [List.getElem?_append_left h1] at hq
    exact keep i q (Or.inl h1) (by rw [List.getElem?_append_left h1]; exact hq)
  · rw [List.getElem?_append_right (by omega)] at hq
    by_cases h2 : i - a.length < w1.length
    · rw [List.getElem?_append_left h2] at hq
      exact hP1 _ q hq
    · rw [List.getElem?_append_right (by omega)] at hq
      refine keep i q (Or.inr (by omega)) ?_
      rw [List.getElem?_append_right (by omega), List.getElem?_append_right (by omega), ← hlen]
      exact hq
/-- the surroundings: links between nest mates, texts, the two statics of Throwable -/
theorem NB_warm {s U : State} (hW : s.WarmedH U.vm) : ∀ w ∈ NB, va_Nw w s → va_Nw w U := by
  intro w hw h
  simp only [NB, List.mem_cons, List.not_mem_nil, or_false] at hw
  rcases hw with rfl | rfl | rfl | rfl | rfl | rfl | rfl | rfl | rfl | rfl | rfl | rfl | rfl | rfl | rfl <;> first | exact va_Nw.warmM hW h | exact va_Nw.warmF hW h | exact va_Nw.warmC hW h | exact va_Nw.warmD hW h
def EV (A : Nat → Prop) (U : State) : Prop := (∀ w ∈ NB, va_Nw w U) ∧ (∃ q, vk_R RX 46 "too many messages are open" q U) ∧ (∃ q, vk_R RX 53 "no message is open" q U) ∧ (∃ q, vk_R RX 75 "not enough gas" q U) ∧ (∃ q, vk_R RX 88 "what is not 0 to 3" q U) ∧ (∃ q, vk_R RX 91 "no such owner or place" q U) ∧
  vx_Zq Bundle.tN "UNASSIGNED_STACK" Bundle.steD A U U.heap ∧ vx_Zq Bundle.tN "SUPPRESSED_SENTINEL" Bundle.listD A U U.heap ∧ va_Nc EISE EIAE U
theorem EV.moved {A B : Nat → Prop} {s U : State} (h : EV A s) (hW : s.WarmedH U.vm) (hk : ∀ q : Nat, q < s.heap.size → ¬ A q → U.heap[q]? = s.heap[q]?) (hAB : ∀ q, B q → A q) : EV B U := by
  obtain ⟨h1, ⟨q2, h2⟩, ⟨q3, h3⟩, ⟨q4, h4⟩, ⟨q5, h5⟩, ⟨q6, h6⟩, h7, h8, h9⟩ := h
  exact ⟨fun w hw => NB_warm hW w hw (h1 w hw), ⟨q2, h2.warm hW⟩, ⟨q3, h3.warm hW⟩, ⟨q4, h4.warm hW⟩, ⟨q5, h5.warm hW⟩, ⟨q6, h6.warm hW⟩, ((h7.moved hW.alike).kept hk).narrow hAB, ((h8.moved hW.alike).kept hk).narrow hAB, h9.moved hW.alike⟩
abbrev tyL (k : Nat → ClassId) : List (ClassId × FieldType) := [(k 0, .long), (k 1, .object RS), (k 2, .array .long), (k 3, .array .boolean), (k 4, .int), (k 5, .boolean)]
/-- where a method begins: its world, the tables, the surroundings -/
def PW (D : va_G) (k : Nat → ClassId) (ws : va_W) (sz : Nat) (U : State) : Prop := U.heap.size = sz ∧ va_P D wCl ws U.heap ∧ va_K D wCl (tyL k) U ∧ va_D (fun _ => True) ws ∧ EV (va_A ws sz) U
theorem PW.bl {D : va_G} {k : Nat → ClassId} {ws : va_W} {sz : Nat} {av : List Value} : FrameBlind (va_Pc av (PW D k ws sz)) := by
  intro a U g mk q
  obtain ⟨q0, q1, qP, qK, qD, qE⟩ := q
  exact ⟨q0, q1, qP, va_K.moved (u := U) (U := U.calling g mk a) (Vm.Alike.refl U.vm) qK, qD, qE.moved (State.WarmedH.refl U) (fun _ _ _ => rfl) (fun _ h => h)⟩
theorem PW.go {D : va_G} {k : Nat → ClassId} {A : Nat → Prop} {ws : va_W} {H : Heap} {locs : List Loc} {s U : State} (hK : va_K D wCl (tyL k) s) (hP : va_P D wCl ws H) (hD : va_D A ws) (hS : va_S A s.heap H locs) (hA : ∀ q, s.heap.size ≤ q → A q) (hE : EV A s) (hU : U.heap = H) (hW : s.WarmedH U.vm) : PW D k ws H.size U :=
  ⟨by rw [hU], by rw [hU]; exact hP, va_K.moved hW.alike hK, hD.weaken (fun _ _ _ _ => trivial), hE.moved hW (fun q h1 h2 => by rw [hU]; exact hS.2.1 q h1 h2) (cut_F hD hS hA)⟩
