/-! an array of rows, made at once: the machine's steps and the world behind it -/
/-- the rows' addresses in an array of N, i of them made, behind the cell h -/
def mm_f (h i : Nat) : Nat → Value := fun j => if j < i then .ref (h + 1 + j) else .null
theorem mm_f0 (h : Nat) : mm_f h 0 = fun _ => .null := by
  funext j
  simp [mm_f]
theorem mm_fs (h i : Nat) : updV (mm_f h i) i (.ref (h + 1 + i)) = mm_f h (i + 1) := by
  funext j
  simp only [updV, mm_f]
  by_cases e : j = i
  · subst e
    rw [if_pos rfl, if_pos (by omega)]
  · rw [if_neg e]
    by_cases q : j < i
    · rw [if_pos q, if_pos (by omega)]
    · rw [if_neg q, if_neg (by omega)]
/-- the state with the array and i of its rows -/
def mm_U (T : State) (cA cC : ClassId) (N M : Nat) (dv : Value) : Nat → State
  | 0 => T.pushCell (arrV cA N (mm_f T.heap.size 0))
  | i + 1 => ((mm_U T cA cC N M dv i).pushCell (arrV cC M (fun _ => dv))).setCell T.heap.size (arrV cA N (mm_f T.heap.size (i + 1)))
theorem mm_at (T : State) (cA cC : ClassId) (N M : Nat) (dv : Value) : ∀ i, (mm_U T cA cC N M dv i).heap.size = T.heap.size + 1 + i ∧ (mm_U T cA cC N M dv i).heap[T.heap.size]? = some (arrV cA N (mm_f T.heap.size i)) ∧
    (mm_U T cA cC N M dv i).vm = T.vm ∧ (mm_U T cA cC N M dv i).slotsUsed = T.slotsUsed + N + i * M ∧ (∀ j, j < i → (mm_U T cA cC N M dv i).heap[T.heap.size + 1 + j]? = some (arrV cC M (fun _ => dv))) ∧ ∀ q, q < T.heap.size → (mm_U T cA cC N M dv i).heap[q]? = T.heap[q]?
  | 0 => ⟨by simp [mm_U], by simp [mm_U], rfl, by simp [mm_U, arrV_size], fun j h => absurd h (Nat.not_lt_zero j), fun q h => State.heap_pushCell_of_lt _ _ h⟩
  | i + 1 => by
    obtain ⟨h1, h2, h3, h4, h5, h6⟩ := mm_at T cA cC N M dv i
    have hlt : T.heap.size < (mm_U T cA cC N M dv i).heap.size := by omega
    have hb : ((mm_U T cA cC N M dv i).pushCell (arrV cC M (fun _ => dv))).heap[T.heap.size]? = some (arrV cA N (mm_f T.heap.size i)) := by rw [State.heap_pushCell_of_lt (h := hlt)]; exact h2
    refine ⟨?_, State.heap_setCell_self hb, by simp [mm_U, h3], ?_, fun j hj => ?_, fun q hq => ?_⟩
    · simp [mm_U, State.setCell, h1]; omega
    · simp [mm_U, h4, arrV_size, Nat.succ_mul]; omega
    · show (((mm_U T cA cC N M dv i).pushCell (arrV cC M (fun _ => dv))).setCell T.heap.size _).heap[T.heap.size + 1 + j]? = _
      rw [State.heap_setCell_other (show T.heap.size ≠ T.heap.size + 1 + j by omega)]
      by_cases e : j = i
      · subst e
        rw [← h1]
        exact State.heap_pushCell_size _ _
      · rw [State.heap_pushCell_of_lt (h := show T.heap.size + 1 + j < (mm_U T cA cC N M dv i).heap.size by omega)]
        exact h5 j (by omega)
    · show (((mm_U T cA cC N M dv i).pushCell (arrV cC M (fun _ => dv))).setCell T.heap.size _).heap[q]? = _
      rw [State.heap_setCell_other (Nat.ne_of_gt hq), State.heap_pushCell_of_lt (h := show q < (mm_U T cA cC N M dv i).heap.size by omega)]
      exact h6 q hq
theorem mm_top (T : State) (f : JFrame) (cA cC : ClassId) (N M : Nat) (dv : Value) : ∀ i, mm_U (T.setTop f) cA cC N M dv i = (mm_U T cA cC N M dv i).setTop f
  | 0 => rfl
  | i + 1 => by simp only [mm_U, mm_top T f cA cC N M dv i, State.heap_setTop, State.pushCell_setTop, State.setCell_setTop]
/-- an array made by the machine -/
theorem mm_new {E : CtlPost} {e : Env} {d : Bool} {acts : List Action} {S : State} {c0 c1 : ClassId} {k : Class} {ty : FieldType} {len : Nat} {dv : Value} {Q9 : Addr → Pre} (hk : S.vm.classes[c0]? = some k) (hkind : k.kind = .array c1 ty) (h1 : ¬ len > e.platform.arrayLengthLimit) (h2 : ¬ len * componentBytes ty > e.platform.maxHeapBytes)
    (hf : fits ty dv = true) (hd : dv.isDefault = true) (h3 : S.heap.size < e.platform.maxCells) (h4 : S.slotsUsed + len ≤ e.platform.maxSlots) (hq : Q9 S.heap.size d acts (S.pushCell (arrV c0 len (fun _ => dv)))) : wp (Jvm.newArray c0 len dv) Q9 E e d acts S := by
  rw [← arrV_new] at hq
  have hfits : ∀ i v, (Array.replicate len dv)[i]? = some v → S.fitsSlot c0 .none i v = true := by
    intro i v hv
    rw [Array.getElem?_replicate] at hv
    split at hv
    · cases hv
      simp [State.fitsSlot, State.slotType?, hk, hkind, hf]
    · cases hv
  have hacts : allocActs (Array.replicate len dv) S.heap.size acts = acts := by
    unfold allocActs
    rw [if_pos (by rw [Array.all_replicate]; split <;> simp [hd])]
  simp only [Jvm.newArray, Jvm.arrayFits, wp_bind', W.ask, W.ite, h1, if_false, wp_pure', W.theClass, hk, hkind, h2, W.alloc, W.stop, Option.some.injEq, exists_eq_left', Array.size_replicate, hacts]
  rw [if_neg (by omega)]
  exact ⟨h3, h4, hfits, hq⟩
theorem mm_ref {t : FieldType} (h : t.isReference = true) (a : Addr) : fits t (.ref a) = true ∧ fits t .null = true := by
  cases t <;> simp [FieldType.isReference] at h <;> exact ⟨rfl, rfl⟩
theorem mm_make {E : CtlPost} {e : Env} {d : Bool} {acts : List Action} {S : State} {cA cC cc : ClassId} {kA kC : Class} {t0 ty : FieldType} {n k : Int32} {N M : Nat} (hkA : S.vm.classes[cA]? = some kA) (hkindA : kA.kind = .array cC t0) (href : t0.isReference = true) (hkC : S.vm.classes[cC]? = some kC) (hkindC : kC.kind = .array cc ty)
    (hn : ¬ n < 0) (hk : ¬ k < 0) (hN : n.toNatClampNeg = N) (hM : k.toNatClampNeg = M) (hl1 : ¬ N > e.platform.arrayLengthLimit) (hh1 : ¬ N * componentBytes t0 > e.platform.maxHeapBytes) (hl2 : ¬ M > e.platform.arrayLengthLimit) (hh2 : ¬ M * componentBytes ty > e.platform.maxHeapBytes)
    (hdf : fits ty (defaultValue ty) = true) (hdd : (defaultValue ty).isDefault = true) (hc : S.heap.size + 1 + N ≤ e.platform.maxCells) (hs : S.slotsUsed + N + N * M ≤ e.platform.maxSlots)
    {Q9 : Addr → Pre} (hq : ∀ d' acts', Q9 S.heap.size d' acts' (mm_U S cA cC N M (defaultValue ty) N)) : wp (multianewarray.make cA [n, k]) Q9 E e d acts S := by
  have hfind : ([k].find? (· < 0)) = none := by simp [hk]
  rw [multianewarray.make]
  simp only [wp_bind', W.ite, hn, if_false, wp_pure', W.theClass, hkA, hkindA, Option.some.injEq, exists_eq_left']
  rw [hN]
  refine mm_new hkA hkindA hl1 hh1 (mm_ref href 0).2 rfl (by omega) (by have := Nat.zero_le (N * M); omega) ?_
  simp only [hfind]
  rw [ite_self, wp_bind', Std.Legacy.Range.forIn_eq_forIn_range']
  have hsz : ([:N] : Std.Legacy.Range).size = N := by simp [Std.Legacy.Range.size]
  rw [hsz]
  show wp (forIn (List.range' 0 N 1) PUnit.unit _) _ E e d acts _
  refine wp_forIn_inv (fun rest s' => ∃ i, i ≤ N ∧ rest = List.range' i (N - i) ∧ s' = mm_U S cA cC N M (defaultValue ty) i) _ _ ⟨0, Nat.zero_le _, rfl, by rw [← mm_f0 S.heap.size]; rfl⟩ ?_ ?_
  · rintro x rest s' d' acts' Q' ⟨i, hi, hl, rfl⟩ hnext
    have hlt : i < N := by
      rcases Nat.lt_or_ge i N with h | h
      · exact h
      · rw [show N - i = 0 by omega] at hl
        cases hl
    obtain ⟨rfl, hrest⟩ : x = i ∧ rest = List.range' (i + 1) (N - (i + 1)) := by
      rw [show N - i = (N - (i + 1)) + 1 by omega, List.range'_succ] at hl
      exact ⟨(List.cons.inj hl).1, (List.cons.inj hl).2⟩
    obtain ⟨f1, f2, f3, f4, -, -⟩ := mm_at S cA cC N M (defaultValue ty) x
    have hmul : x * M + M ≤ N * M := by
      have := Nat.mul_le_mul_right M (show x + 1 ≤ N from hlt)
      rw [Nat.succ_mul] at this
      exact this
    simp only [wp_bind']
    rw [multianewarray.make]
    simp only [wp_bind', W.ite, hk, if_false, wp_pure', W.theClass, f3, hkC, hkindC, Option.some.injEq, exists_eq_left']
    rw [hM]
    refine mm_new (by rw [f3]; exact hkC) hkindC hl2 hh2 hdf hdd (by rw [f1]; omega) (by rw [f4]; omega) ?_
    have hlt0 : S.heap.size < (mm_U S cA cC N M (defaultValue ty) x).heap.size := by omega
    simp only [wp_bind', W.writeLoc, wp_pure']
    refine ⟨arrV cA N (mm_f S.heap.size x), by rw [State.heap_pushCell_of_lt (h := hlt0)]; exact f2, (fun h => by cases h), (by rw [arrV_size]; exact hlt), ?_, hnext _ _ _ ⟨x + 1, hlt, hrest, ?_⟩⟩
    · simp [arrV, State.fitsSlot, State.slotType?, f3, hkA, hkindA, (mm_ref href _).1]
    · rw [f1, arrV_store, mm_fs]; rfl
  · rintro s' d' acts' ⟨i, hi, hl, rfl⟩
    have hiN : i = N := by
      rcases Nat.lt_or_ge i N with h | h
      · rw [show N - i = (N - (i + 1)) + 1 by omega, List.range'_succ] at hl
        cases hl
      · omega
    subst hiN
    simp only [wp_pure']
    exact hq _ _
section MMS
variable {p : Program} {l : Launch} {e : Env} {R : Room} {s : State} {m : MethodId} {args : Array Value} {below : List Frame} {meth : Method} {c : Code} {T : State} {locs : List Loc} {cells slots : Nat}
theorem mm_stand (X : Stand p l e R s m args below meth c T locs cells slots) (cA cC : ClassId) (N M : Nat) (dv : Value) : ∀ i, Stand p l e R s m args below meth c (mm_U T cA cC N M dv i) locs (cells + 1 + i) (slots + N + i * M)
  | 0 => by
    have h := X.pushed (arrV cA N (mm_f T.heap.size 0))
    rw [arrV_size] at h
    rw [Nat.zero_mul]
    exact h
  | i + 1 => by
    have Xi := mm_stand X cA cC N M dv i
    obtain ⟨f1, f2, f3, f4, -, -⟩ := mm_at T cA cC N M dv i
    have hlt0 : T.heap.size < (mm_U T cA cC N M dv i).heap.size := by omega
    have hcell : ((mm_U T cA cC N M dv i).pushCell (arrV cC M (fun _ => dv))).heap[T.heap.size]? = some (arrV cA N (mm_f T.heap.size i)) := by rw [State.heap_pushCell_of_lt (h := hlt0)]; exact f2
    have h := ((Xi.pushed (arrV cC M (fun _ => dv))).stored hcell i (.ref (T.heap.size + 1 + i))).dropFresh (fun x hx => by rw [List.mem_singleton.mp hx]; exact X.heapGrown)
    rw [arrV_size, arrV_store, mm_fs] at h
    rw [show slots + N + (i + 1) * M = slots + N + i * M + M by rw [Nat.succ_mul]; omega]
    exact h
theorem ao_spec {a0 : Array Value} {U : State} {t : FieldType} (h : (Cond.arrayOver (.array t)).before a0 U = true) :
    ∃ comp c9 k9, U.vm.findClass (FieldType.array t).toString = some comp ∧ (U.vm.classes.findIdx? fun (x : Class) => match x.kind with | .array component _ => component == comp | _ => false) = some c9 ∧ U.vm.classes[c9]? = some k9 ∧ k9.kind = .array comp (.array t) ∧ U.vm.findClass ("[" ++ (FieldType.array t).toString) = some c9 := by
  simp only [Cond.before, Cond.holds, Cond.value, beq_iff_eq] at h
  cases hc : U.vm.findClass (FieldType.array t).toString with
  | none => simp [hc] at h
  | some comp =>
    simp only [hc, Option.bind_some, Option.bind_eq_some_iff, Option.map_eq_some_iff] at h
    obtain ⟨c9, hi, k9, hk, hb⟩ := h
    obtain ⟨hlt, hp, -⟩ := Array.findIdx?_eq_some_iff_getElem.mp hi
    have hkk : U.vm.classes[c9] = k9 := (Array.getElem?_eq_some_iff.mp hk).2
    rw [hkk] at hp
    cases hkind : k9.kind with
    | array component ty =>
      rw [hkind] at hb hp
      simp at hb hp
      exact ⟨comp, c9, k9, rfl, hi, hk, by rw [hkind, hp, hb.1], hb.2⟩
    | _ => rw [hkind] at hb; simp at hb
end MMS
section MMW
variable {p : Program} {l : Launch} {e : Env} {R : Room} {s : State} {m : MethodId} {args : Array Value} {below : List Frame} {meth : Method} {c : Code} {H : Heap} {locs : List Loc} {cells slots : Nat} {Q : State → Prop}
variable {cc : ByteArray} {pc : Nat} {ls : Array Slot} {rest : List Value} {D : va_G} {cl : List vw_C} {A : Nat → Prop} {tys : List (ClassId × FieldType)} {ws : va_W} {H0 : Heap}
theorem mm_two {T : State} (X : Stand p l e R s m args below meth c T locs cells slots) (hexec : p.tables.exec = Jvm.exec) {own : String} {index : Nat} {ty : FieldType} (hown : s.vm.findClass own = some m.cls) (hclink : (Cond.classLink own index ("[" ++ (FieldType.array ty).toString)).before args s = true)
    (hover : (Cond.arrayOver (.array ty)).before args s = true) (harr : (Cond.arrayClass ty).before args s = true) {g : JFrame} (hg : g.method = m) (hdg : decode c.code g.pc = .ok (.multianewarray index 2, 4)) {n k : Int32} {N M : Nat} {rest : List Value} (hstack : g.stack = .int k :: .int n :: rest)
    (hn : ¬ n < 0) (hk : ¬ k < 0) (hN : n.toNatClampNeg = N) (hM : k.toNatClampNeg = M) (hb1 : N * 4 ≤ 536870912) (hb2 : M * componentBytes ty ≤ 536870912) (hb3 : M ≤ 536870912) (hdf : fits ty (defaultValue ty) = true) (hdd : (defaultValue ty).isDefault = true)
    (hcells : cells + (1 + N) ≤ R.cells) (hslots : slots + (N + N * M) ≤ R.slots) :
    ∃ (vm₁ : Vm) (cA cC : ClassId), s.WarmedH vm₁ ∧ (s.vm.findClass ("[" ++ (FieldType.array ty).toString) = some cA ∧ s.vm.findClass (FieldType.array ty).toString = some cC ∧ (∃ kA, s.vm.classes[cA]? = some kA ∧ kA.kind = .array cC (.array ty)) ∧ ∃ kC c9, s.vm.classes[cC]? = some kC ∧ kC.kind = .array c9 ty) ∧
      Stand p l e R s m args below meth c (mm_U (T.setVm vm₁) cA cC N M (defaultValue ty) N) locs (cells + 1 + N) (slots + N + N * M) ∧
      ∀ target, Steps p.tables e below ((mm_U (T.setVm vm₁) cA cC N M (defaultValue ty) N).setTop { g with pc := g.pc + 4, stack := .ref T.heap.size :: rest }) target → Steps p.tables e below (T.setTop g) target := by
  subst hg
  have hpl : e.platform.magicAccessors = ({} : Platform).magicAccessors := by rw [X.admits.platform]
  obtain ⟨cC, cA, kA, hcC, -, hkA, hkindA, hnameA⟩ := ao_spec hover
  obtain ⟨cC', kC, c9, hcC', hkC, hkindC⟩ := Cond.arrayClass_spec harr
  obtain rfl : cC' = cC := Option.some.inj (hcC'.symm.trans hcC)
  obtain ⟨c0, hfc0, hcl⟩ := Cond.classLink_spec hown hclink e.platform hpl
  cases hnameA.symm.trans hfc0
  obtain ⟨hg₁, hwarm₁, hready₁⟩ := State.classEntry (e := e) X.warmed hcl
  generalize T.vm.noted g.method.cls index (.cls cA) = vm₁ at hg₁ hwarm₁ hready₁
  have hal : s.vm.Alike vm₁ := hwarm₁.alike
  obtain ⟨kA₁, hkA₁, heA⟩ := hal.2.2 _ _ hkA
  obtain ⟨kC₁, hkC₁, heC⟩ := hal.2.2 _ _ hkC
  have X₁ := X.noted hwarm₁
  obtain ⟨hr1, hr2⟩ := X.roomAbove hcells hslots
  have XF := mm_stand X₁ cA cC' N M (defaultValue ty) N
  refine ⟨vm₁, cA, cC', hwarm₁, ⟨hnameA, hcC, ⟨kA, hkA, hkindA⟩, kC, c9, hkC, hkindC⟩, XF, fun target hrest => ?_⟩
  jvm_step X.here [hexec, hdg]
  simp only [multianewarray.sem, wp_bind', W.resolveClassAt_links (State.method?_setTop g X.here.top) hg₁]
  rw [W.popN, if_neg (by decide)]
  refine ⟨g, State.topJava?_setTop' (s := T.setVm vm₁) g X.here.top, [.int n, .int k], rest, rfl, hstack, ?_⟩
  simp only [List.mapM_cons, List.mapM_nil, wp_bind', wp_pure']
  refine mm_make (kA := kA₁) (kC := kC₁) (cC := cC') (cc := c9) (t0 := .array ty) (ty := ty) hkA₁ (by rw [heA]; exact hkindA) rfl hkC₁ (by rw [heC]; exact hkindC) hn hk hN hM (by rw [Launch.admits_arrayLengthLimit X.admits]; omega) (by rw [Launch.admits_maxHeapBytes X.admits]; show ¬ N * 4 > 536870912; omega)
    (by rw [Launch.admits_arrayLengthLimit X.admits]; omega) (by rw [Launch.admits_maxHeapBytes X.admits]; omega) hdf hdd (by show T.heap.size + 1 + _ ≤ _; omega) (by show T.slotsUsed + _ + _ ≤ _; omega) (fun d' acts' => ?_)
  have eS : ((T.setTop g).setVm vm₁).setTop { g with stack := rest } = (T.setVm vm₁).setTop { g with stack := rest } := by
    show ((T.setVm vm₁).setTop g).setTop _ = _
    rw [State.setTop_setTop]
  rw [eS, mm_top]
  simp only [wp_bind', W.mark, W.pushRef, State.topJava?_setTop' _ XF.here.top, Option.some.injEq, exists_eq_left', State.setTop_setTop, State.heap_setTop]
  intro acts
  simp [jvm, XF.here.top]
  exact hrest
end MMW
