/-! constructors: worlds that grow -/
theorem kc_obj : Cond.code objectInit ⟨#[0xb1]⟩ 1 none ∈ TB := by decide +kernel
theorem ra_eq {U : State} {c1 c2 : ClassId} {ty : FieldType} (h1 : va_RA U c1 ty) (h2 : va_RA U c2 ty) : c1 = c2 := by
  cases ty with
  | object C =>
    obtain ⟨_, _, _, _, _, h1⟩ := h1
    obtain ⟨_, _, _, _, _, h2⟩ := h2
    exact Option.some.inj (h1.symm.trans h2)
  | _ => exact Option.some.inj (h1.symm.trans h2)
theorem arrV_congr (cI : ClassId) {N : Nat} {f g : Nat → Value} (h : ∀ j, j < N → f j = g j) : arrV cI N f = arrV cI N g := by
  unfold arrV
  congr 1
  apply Array.ext
  · simp
  · intro i h1 h2
    simp only [Array.getElem_ofFn]
    exact h i (by simpa using h1)
theorem rg_succ (n : Nat) (f : Nat → Nat × va_E) : rg (n + 1) f = rg n f ++ [f n] := by simp [rg, List.range_succ]
theorem rg_congr {n : Nat} {f g : Nat → Nat × va_E} (h : ∀ j, j < n → f j = g j) : rg n f = rg n g := by
  unfold rg
  exact List.map_congr_left (fun j hj => h j (List.mem_range.mp hj))
theorem va_P.perm {D : va_G} {cl : List vw_C} {ws ws' : va_W} {H : Heap} (h : va_P D cl ws H) (p : ws.Perm ws') : va_P D cl ws' H := fun k q hk => by
  obtain ⟨i, hi⟩ := List.getElem?_of_mem (p.mem_iff.mpr (List.mem_of_getElem? hk))
  exact h i q hi
theorem va_D.perm {A : Nat → Prop} {ws ws' : va_W} (h : va_D A ws) (p : ws.Perm ws') : va_D A ws' := by
  have hn : (ws.map Prod.fst).Nodup := by
    refine List.pairwise_iff_getElem.mpr (fun i j hi hj hij he => ?_)
    rw [List.length_map] at hi hj
    rw [List.getElem_map, List.getElem_map] at he
    have := h.1 i j ws[i] ws[j] (List.getElem?_eq_getElem hi) (List.getElem?_eq_getElem hj) he
    omega
  have hn' : (ws'.map Prod.fst).Nodup := (p.map Prod.fst).nodup_iff.mp hn
  refine ⟨fun i j x y hi hj hxy => ?_, fun k q hk => ?_⟩
  · have hl : i < (ws'.map Prod.fst).length := by rw [List.length_map]; exact (List.getElem?_eq_some_iff.mp hi).1
    refine (List.getElem?_inj hl hn').mp ?_
    rw [List.getElem?_map, List.getElem?_map, hi, hj]
    exact congrArg some hxy
  · obtain ⟨i, hi⟩ := List.getElem?_of_mem (p.mem_iff.mpr (List.mem_of_getElem? hk))
    exact h.2 i q hi
/-- behind a call that had the last cells w of a world and gave back w1, larger maybe -/
theorem cut_G {A0 : Nat → Prop} {D : va_G} {cl : List vw_C} {a w w1 : va_W} {H H1 : Heap} (hP : va_P D cl (a ++ w) H) (hD : va_D A0 (a ++ w)) (hk : ∀ q : Nat, q < H.size → ¬ va_A w H.size q → H1[q]? = H[q]?) (hF : ∀ q, va_A w H.size q → A0 q) (hP1 : va_P D cl w1 H1) (hD1 : va_D (va_A w H.size) w1) :
    va_P D cl (a ++ w1) H1 ∧ va_D A0 (a ++ w1) := by
  have hin : ∀ (i : Nat) (q : Nat × va_E), a[i]? = some q → (a ++ w)[i]? = some q := fun i q h => by
    rw [List.getElem?_append_left (List.getElem?_eq_some_iff.mp h).1]; exact h
  have hinw : ∀ (i : Nat) (q : Nat × va_E), w[i]? = some q → (a ++ w)[a.length + i]? = some q := fun i q h => by
    rw [List.getElem?_append_right (by omega), Nat.add_sub_cancel_left]; exact h
  have apart : ∀ (i : Nat) (q : Nat × va_E), a[i]? = some q → q.1 < H.size ∧ ¬ va_A w H.size q.1 := by
    intro i q hq
    have hl := (hP i q (hin i q hq)).lt
    refine ⟨hl, fun h => ?_⟩
    rcases h with ⟨j, x, hj⟩ | h
    · have := hD.1 i (a.length + j) q (q.1, x) (hin i q hq) (hinw j _ hj) rfl
      have := (List.getElem?_eq_some_iff.mp hq).1
      omega
    · omega
  have hDa : va_D A0 a := ⟨fun i j x y hi hj hxy => hD.1 i j x y (hin i x hi) (hin j y hj) hxy, fun k q hk => hD.2 k q (hin k q hk)⟩
  refine ⟨va_P.app (fun k q hq => (hP k q (hin k q hq)).kept (hk q.1 (apart k q hq).1 (apart k q hq).2)) hP1, hDa.app (hD1.weaken (fun k q _ h => hF q.1 h)) (fun i j x y hx hy hxy => ?_)⟩
  exact (apart i x hx).2 (by rw [hxy]; exact hD1.2 j y hy)
theorem last_P {D : va_G} {cl : List vw_C} {a w : va_W} {H : Heap} (h : va_P D cl (a ++ w) H) : va_P D cl w H := fun k q hk => h (a.length + k) q (by rw [List.getElem?_append_right (by omega), Nat.add_sub_cancel_left]; exact hk)
theorem last_D {A : Nat → Prop} {a w : va_W} (h : va_D A (a ++ w)) : va_D A w := by
  have hinw : ∀ (i : Nat) (q : Nat × va_E), w[i]? = some q → (a ++ w)[a.length + i]? = some q := fun i q h => by
    rw [List.getElem?_append_right (by omega), Nat.add_sub_cancel_left]; exact h
  exact ⟨fun i j x y hi hj hxy => by have := h.1 _ _ x y (hinw i x hi) (hinw j y hj) hxy; omega, fun k q hk => h.2 _ q (hinw k q hk)⟩
section NEWM
variable {p : Program} {l : Launch} {e : Env} {R : Room} {s : State} {m : MethodId} {args : Array Value} {below : List Frame} {meth : Method} {c : Code} {H : Heap} {locs : List Loc} {cells slots : Nat} {Q : State → Prop}
variable {cc : ByteArray} {pc : Nat} {ls : Array Slot} {rest : List Value} {D : va_G} {cl : List vw_C} {A : Nat → Prop} {tys : List (ClassId × FieldType)} {ws : va_W} {H0 : Heap}
set_option maxHeartbeats 4000000 in
theorem va_newm (hexec : p.tables.exec = Jvm.exec) (hb : c.code = cc) {own : String} {index : Nat} {ty : FieldType} (hown : s.vm.findClass own = some m.cls) (hclink : (Cond.classLink own index ("[" ++ (FieldType.array ty).toString)).before args s = true) (hover : (Cond.arrayOver (.array ty)).before args s = true) (harr : (Cond.arrayClass ty).before args s = true)
    (hra : ∀ cC : ClassId, s.vm.findClass (FieldType.array ty).toString = some cC → va_RA s cC ty) (hK : va_K D cl tys s) (hP : va_P D cl ws H) (hD : va_D A ws) (hS : va_S A H0 H locs) (hA : ∀ q, H0.size ≤ q → A q) {n k : Int32} {N M : Nat} {a0 : vp_A} (ha : ∀ cA : ClassId, vp_cell cA a0 = arrV cA M (fun _ => defaultValue ty))
    (hn : ¬ n < 0) (hk : ¬ k < 0) (hN : n.toNatClampNeg = N) (hM : k.toNatClampNeg = M) (hb1 : N * 4 ≤ 536870912) (hb2 : M * componentBytes ty ≤ 536870912) (hb3 : M ≤ 536870912) (hdf : fits ty (defaultValue ty) = true) (hdd : (defaultValue ty).isDefault = true) (hcells : cells + (1 + N) ≤ R.cells) (hslots : slots + (N + N * M) ≤ R.slots)
    (hdg : decode cc pc = .ok (.multianewarray index 2, 4))
    (kk : ∀ (q : Nat) (cA cC : ClassId) (H1 : Heap), va_K D cl (tys ++ [(cA, .array ty), (cC, ty)]) s → va_P D cl (ws ++ ((q, .inl (cA, N, .inr (.inr (.inr (.inr (fun i => some (q + 1 + i))))))) :: rg N (fun i => (q + 1 + i, .inl (cC, a0))))) H1 → va_D A (ws ++ ((q, .inl (cA, N, .inr (.inr (.inr (.inr (fun i => some (q + 1 + i))))))) :: rg N (fun i => (q + 1 + i, .inl (cC, a0))))) → va_S A H0 H1 locs →
      W p l e R s m args below meth c H1 locs (cells + 1 + N) (slots + N + N * M) Q (F0 m (pc + 4) ls (.ref q :: rest))) : W p l e R s m args below meth c H locs cells slots Q (F0 m pc ls (.int k :: .int n :: rest)) := by
  intro T hT X
  obtain ⟨vm₁, cA, cC, hW, ⟨g1, g2, ⟨kA, g3, g4⟩, kC, c9, g5, g6⟩, XF, st⟩ := mm_two X hexec hown hclink hover harr (g := F0 m pc ls (.int k :: .int n :: rest)) rfl (by rw [hb]; exact hdg) rfl hn hk hN hM hb1 hb2 hb3 hdf hdd hcells hslots
  obtain ⟨f1, f2, -, -, f5, f6⟩ := mm_at (T.setVm vm₁) cA cC N M (defaultValue ty) N
  have hh : (T.setVm vm₁).heap = H := hT
  have hTs : T.heap.size = H.size := by rw [hT]
  rw [hh] at f1 f2 f5 f6
  rw [hTs] at st
  have hold : ∀ (i : Nat) (x : Nat × va_E), ws[i]? = some x → x.1 < H.size := fun i x hx => (hP i x hx).lt
  have hnew : ∀ (i : Nat) (x : Nat × va_E), ((H.size, .inl (cA, N, .inr (.inr (.inr (.inr (fun i => some (H.size + 1 + i))))))) :: rg N (fun i => (H.size + 1 + i, .inl (cC, a0))) : va_W)[i]? = some x → x.1 = H.size + i := by
    intro i x hx
    cases i with
    | zero => cases hx; rfl
    | succ i =>
      rw [List.getElem?_cons_succ] at hx
      have hl := (List.getElem?_eq_some_iff.mp hx).1
      rw [rg_len] at hl
      rw [rg_at _ hl] at hx
      cases hx
      show H.size + 1 + i = _
      omega
  obtain ⟨t, a1, b1⟩ := kk H.size cA cC (mm_U (T.setVm vm₁) cA cC N M (defaultValue ty) N).heap
    ⟨hK.1, fun i x hx => by
      rcases List.mem_append.mp (List.mem_of_getElem? hx) with h | h
      · obtain ⟨j, hj⟩ := List.getElem?_of_mem h
        exact hK.2 j x hj
      · rcases List.mem_cons.mp h with rfl | h
        · exact ⟨fun n z => ⟨(fun k h => by cases h), kA, g3, cC, g4⟩, g1⟩
        · rw [List.mem_singleton.mp h]
          exact ⟨fun n z => ⟨(fun k h => by cases h), kC, g5, c9, g6⟩, hra cC g2⟩⟩
    (va_P.app (hP.kept (fun i x hx => f6 x.1 (hold i x hx))) (fun i x hx => by
      cases i with
      | zero =>
        cases hx
        show (mm_U (T.setVm vm₁) cA cC N M (defaultValue ty) N).heap[H.size]? = some (vp_cell _ _)
        rw [f2, vp_cell_q]
        refine congrArg some (arrV_congr cA (fun j hj => ?_))
        show mm_f H.size N j = _
        unfold mm_f
        rw [if_pos hj]
        rfl
      | succ i =>
        rw [List.getElem?_cons_succ] at hx
        have hl := (List.getElem?_eq_some_iff.mp hx).1
        rw [rg_len] at hl
        rw [rg_at _ hl] at hx
        cases hx
        show (mm_U (T.setVm vm₁) cA cC N M (defaultValue ty) N).heap[H.size + 1 + i]? = some (vp_cell _ _)
        rw [f5 i hl, ha]))
    (hD.app ⟨fun i j x y hi hj hxy => by have h1 := hnew i x hi; have h2 := hnew j y hj; omega, fun i x hx => by rw [hnew i x hx]; exact hA _ (Nat.le_trans hS.1 (by omega))⟩ (fun i j x y hx hy hxy => by have h1 := hold i x hx; have h2 := hnew j y hy; omega))
    ⟨Nat.le_trans hS.1 (by rw [f1]; omega), fun q h1 h2 => (f6 q (Nat.lt_of_lt_of_le h1 hS.1)).trans (hS.2.1 q h1 h2), hS.2.2⟩ _ rfl XF
  exact ⟨t, st t a1, b1⟩
end NEWM

set_option maxHeartbeats 4000000 in
set_option maxRecDepth 100000 in
theorem m_S_init (l : Launch) (D : va_G) (k : Nat → ClassId) (h : Nat) (z : Int32) (sz : Nat) : Met l y_S_init (w_S_init :: TB) ({ frames := 1, cells := 2, slots := 260, locals := 20 }) (va_Pc [.ref h] (PW D k [(h, .inr (0, [.null, .null, .int z]))] sz)) (va_Qv (fun _ : Nat × Nat => True) (fun u t => va_P D wCl [(h, .inr (0, [.ref u.1, .ref u.2, .int 0])), (u.1, .inl (k 0, 256, .inr (.inl (fun _ => 0)))), (u.2, .inl (k 0, 4, .inr (.inl (fun _ => 0))))] t.heap ∧ va_D (va_A [(h, .inr (0, [.null, .null, .int z]))] sz) [(h, .inr (0, [.ref u.1, .ref u.2, .int 0])), (u.1, .inl (k 0, 256, .inr (.inl (fun _ => 0)))), (u.2, .inl (k 0, 4, .inr (.inl (fun _ => 0))))]) (va_A [(h, .inr (0, [.null, .null, .int z]))] sz)) 2 260 (va_A [(h, .inr (0, [.null, .null, .int z]))] sz) := by
  refine Met.ofW (cc := b_S_init) (maxL := 1) (ret := none) (by decide) rfl ?_
  intro p e s m args below meth c s₁ B hml hv
  obtain ⟨rfl, hsz, hP, hK, hD0, hE⟩ := hv
  have hx := B.exec
  have hb := B.bytes
  have hr := B.returns
  have hts0 := atoms_spec (ws := w_S_init :: TB) B.pre
  have hts := fun w (hw : w ∈ TB) => hts0 w (List.mem_cons_of_mem _ hw)
  have hown : s.vm.findClass RS = some m.cls := findClass_of_methodNamed B.named
  have hlocks := B.notSynchronized
  have hin : meth.name = "<init>" := (name_of_methodNamed B.named B.method).1
  subst hsz
  have hD := hD0.self (sz := s.heap.size)
  generalize hAe : va_A ([(h, .inr (0, [.null, .null, .int z]))]) s.heap.size = A at *
  have hA : ∀ q : Nat, s.heap.size ≤ q → A q := fun q h => by rw [← hAe]; exact Or.inr h
  have hS : va_S A s.heap s.heap [] := va_S.rf
  have hl := lv_entry ([.ref h]) (n := 1) (Nat.le_of_ble_eq_true rfl)
  rw [lg_entry_eq]
  generalize (lg_sl ([.ref h]) ++ List.replicate (1 - (lg_sl ([.ref h])).length) Slot.unset).toArray = ls at hl ⊢
  have hl : lv_has ls 1 [(0, .ref h)] := hl
  refine lv_aload_n hx hb d_S_init_0 rfl (lv_at hl 0 rfl) ?_
  refine W.objInit hx hb hown (hts _ kl_S_3) (hts _ ki_objectInit) (hts _ kc_obj) rfl (by rw [hml]; exact hl.1) rfl d_S_init_1 (Nat.le_of_ble_eq_true rfl) (Nat.le_of_ble_eq_true rfl) ?_
  refine W.eq (g2 := F0 m 4 ls []) rfl ?_
  refine lv_aload_n hx hb d_S_init_4 rfl (lv_at hl 0 rfl) ?_
  refine lv_sipush (v := 256) hx hb d_S_init_5 (by decide) ?_
  refine va_newa (atype := .long) hx hb (hts _ kr_long) (ty := .long) rfl hK hP hD hS hA (N' := 256) (a0 := (256, .inr (.inl (fun _ => 0)))) (fun _ => rfl) (by decide) (by decide) (by decide) (Nat.le_of_ble_eq_true rfl) (Nat.le_of_ble_eq_true rfl) d_S_init_8 (fun u1 cA H hK1 hP hD hS => ?_)
  obtain rfl : cA = k 0 := ra_eq (hK1.2 6 _ rfl).2 (hK1.2 0 _ rfl).2
  refine va_putF (D := D) (ci := 0) (v := .ref u1) (ty := .array .long) (C := RS) (T := TS) (N := 3) hx hb hts kin_S tS tyS nmS hown hK hP hD hS 0 rfl rfl 0 (by decide) (hts _ kf_S_9) (fun _ h9 => h9) rfl hin rfl (by decide +kernel) rfl rfl (Nat.le_of_ble_eq_true rfl) d_S_init_10 (fun H locs hP hD hS => ?_)
  have hP : va_P D wCl ([(h, .inr (0, [.ref u1, .null, .int z])), (u1, .inl (k 0, 256, .inr (.inl (fun _ => 0))))]) H := hP
  have hD : va_D A ([(h, .inr (0, [.ref u1, .null, .int z])), (u1, .inl (k 0, 256, .inr (.inl (fun _ => 0))))]) := hD
  refine lv_aload_n hx hb d_S_init_13 rfl (lv_at hl 0 rfl) ?_
  refine lv_iconst (v := 4) hx hb d_S_init_14 (by decide) ?_
  refine va_newa (atype := .long) hx hb (hts _ kr_long) (ty := .long) rfl hK hP hD hS hA (N' := 4) (a0 := (4, .inr (.inl (fun _ => 0)))) (fun _ => rfl) (by decide) (by decide) (by decide) (Nat.le_of_ble_eq_true rfl) (Nat.le_of_ble_eq_true rfl) d_S_init_15 (fun u2 cA H hK1 hP hD hS => ?_)
  obtain rfl : cA = k 0 := ra_eq (hK1.2 6 _ rfl).2 (hK1.2 0 _ rfl).2
  refine va_putF (D := D) (ci := 0) (v := .ref u2) (ty := .array .long) (C := RS) (T := TS) (N := 3) hx hb hts kin_S tS tyS nmS hown hK hP hD hS 0 rfl rfl 1 (by decide) (hts _ kf_S_15) (fun _ h9 => h9) rfl hin rfl (by decide +kernel) rfl rfl (Nat.le_of_ble_eq_true rfl) d_S_init_17 (fun H locs hP hD hS => ?_)
  have hP : va_P D wCl ([(h, .inr (0, [.ref u1, .ref u2, .int z])), (u1, .inl (k 0, 256, .inr (.inl (fun _ => 0)))), (u2, .inl (k 0, 4, .inr (.inl (fun _ => 0))))]) H := hP
  have hD : va_D A ([(h, .inr (0, [.ref u1, .ref u2, .int z])), (u1, .inl (k 0, 256, .inr (.inl (fun _ => 0)))), (u2, .inl (k 0, 4, .inr (.inl (fun _ => 0))))]) := hD
  refine lv_aload_n hx hb d_S_init_20 rfl (lv_at hl 0 rfl) ?_
  refine lv_iconst (v := 0) hx hb d_S_init_21 (by decide) ?_
  refine va_put (D := D) (ci := 0) (v := .int 0) (ty := .int) (C := RS) (T := TS) (N := 3) hx hb hts kin_S tS tyS nmS hown hK hP hD hS 0 rfl rfl 2 (by decide) (hts _ kf_S_18) (fun _ h9 => h9) rfl (by decide +kernel) rfl rfl (Nat.le_of_ble_eq_true rfl) d_S_init_22 (fun H locs hP hD hS => ?_)
  have hP : va_P D wCl ([(h, .inr (0, [.ref u1, .ref u2, .int 0])), (u1, .inl (k 0, 256, .inr (.inl (fun _ => 0)))), (u2, .inl (k 0, 4, .inr (.inl (fun _ => 0))))]) H := hP
  have hD : va_D A ([(h, .inr (0, [.ref u1, .ref u2, .int 0])), (u1, .inl (k 0, 256, .inr (.inl (fun _ => 0)))), (u2, .inl (k 0, 4, .inr (.inl (fun _ => 0))))]) := hD
  refine W.widen (k := 2) (n := 260) (by omega) (by omega) ?_
  exact W.vret hx hb hr (fun t ht hW => ⟨⟨(u1, u2), rfl, trivial, atP hP ht, hD⟩, hS.F ht⟩) hS.2.2 d_S_init_25
