/-! class and reference side by side: what ties their states, and that every call keeps it -/
def RI (d : Nat) (F : Nat → Int64) (V M : Nat → Nat → Int64) (R : Nat → Int32) (N G : Nat → Int64) (t : Nat → Bool) (KR : Nat → Int32) (K : Nat → Nat → Int64) (T : Nat → Nat → Bool) (r : Int32) : Prop :=
  d ≤ 30 ∧ (∀ j, j < 256 → G j = F j) ∧ (∀ j, j < 256 → N j = V d j) ∧ (∀ u v, u < 4 → v < 64 → t (u * 64 + v) = tb (M d u) v) ∧ r = R d ∧ ∀ i, i < d → (∀ j, j < 256 → K (i + 1) j = V i j) ∧ (∀ u v, u < 4 → v < 64 → T (i + 1) (u * 64 + v) = tb (M i u) v) ∧ KR (i + 1) = R i
theorem cnt_congr {f g : Nat → Int64} : ∀ n, (∀ j, j < n → f j = g j) → cnt f n = cnt g n
  | 0, _ => rfl
  | n + 1, h => by
    show cnt f n + _ = cnt g n + _
    rw [cnt_congr n (fun j hj => h j (by omega)), h n (by omega)]
theorem tb_0 (v : Nat) : tb 0 v = false := by simp [tb]
theorem cpyL {f g : Nat → Int64} {n j : Nat} (h : j < n) : va_cpy f g 0 0 n j = f j := by
  rw [pk_cpy_in (Nat.zero_le j) (by omega), Nat.zero_add, Nat.sub_zero]
section RIS
variable {d : Nat} {F : Nat → Int64} {V M : Nat → Nat → Int64} {R : Nat → Int32} {N G : Nat → Int64} {t : Nat → Bool} {KR : Nat → Int32} {K : Nat → Nat → Int64} {T : Nat → Nat → Bool} {r : Int32}
theorem ri_begin (h : RI d F V M R N G t KR K T r) {F2 G2 : Nat → Int64} {V2 M2 : Nat → Nat → Int64} {R2 : Nat → Int32} {t2 : Nat → Bool} (h1 : ∀ j, j < 256 → V2 0 j = V d j) (h2 : ∀ j, j < 256 → F2 j = V d j) (h3 : ∀ q, q < 4 → M2 0 q = 0) (h4 : R2 0 = 0) (h5 : ∀ j, j < 256 → G2 j = N j) (h6 : ∀ j, j < 256 → t2 j = false) :
    RI 0 F2 V2 M2 R2 N G2 t2 KR K T 0 ∧ cnt (V2 0) 256 = cnt N 256 := by
  obtain ⟨hd, hF, hN, ht, hr, hi⟩ := h
  refine ⟨⟨by omega, fun j hj => by rw [h5 j hj, h2 j hj, hN j hj], fun j hj => by rw [h1 j hj, hN j hj], fun u v hu hv => ?_, h4.symm, fun i hi => absurd hi (Nat.not_lt_zero i)⟩, cnt_congr 256 (fun j hj => by rw [h1 j hj, hN j hj])⟩
  rw [h6 _ (by omega), h3 u hu, tb_0]
theorem ri_open (h : RI d F V M R N G t KR K T r) (hd : d < 30) {g : Nat → Int64} {g2 : Nat → Bool} (hg : ∀ j, j < 256 → g j = N j) (hg2 : ∀ j, j < 256 → g2 j = t j) :
    RI (d + 1) F (va_up V (d + 1) (va_cpy (V d) (V (d + 1)) 0 0 256)) (va_up M (d + 1) (va_cpy (M d) (M (d + 1)) 0 0 4)) (va_up R (d + 1) (R d)) N G t (upd KR (d + 1) r) (va_up K (d + 1) g) (va_up T (d + 1) g2) r := by
  obtain ⟨-, hF, hN, ht, hr, hi⟩ := h
  refine ⟨by omega, hF, fun j hj => ?_, fun u v hu hv => ?_, ?_, fun i hid => ?_⟩
  · rw [va_up_self, cpyL hj, hN j hj]
  · rw [va_up_self, cpyL hu, ht u v hu hv]
  · rw [va_up_self, hr]
  · have e1 : i ≠ d + 1 := by omega
    rw [va_up_ne V _ e1, va_up_ne M _ e1, va_up_ne R _ e1]
    by_cases hq : i = d
    · subst hq
      rw [va_up_self, va_up_self, pk_us]
      exact ⟨fun j hj => by rw [hg j hj, hN j hj], fun u v hu hv => by rw [hg2 _ (by omega), ht u v hu hv], hr⟩
    · have e2 : i + 1 ≠ d + 1 := by omega
      rw [va_up_ne K _ e2, va_up_ne T _ e2, pk_un e2]
      exact hi i (by omega)
theorem ri_good {f : Nat} (h : RI (f + 1) F V M R N G t KR K T r) : RI f F (va_up V f (va_cpy (V (f + 1)) (V f) 0 0 256)) (va_up M f (va_cpy (M (f + 1)) (M f) 0 0 4)) (va_up R f (R (f + 1))) N G t KR K T r := by
  obtain ⟨hd, hF, hN, ht, hr, hi⟩ := h
  refine ⟨by omega, hF, fun j hj => ?_, fun u v hu hv => ?_, ?_, fun i hid => ?_⟩
  · rw [va_up_self, cpyL hj, hN j hj]
  · rw [va_up_self, cpyL hu, ht u v hu hv]
  · rw [va_up_self, hr]
  · have e1 : i ≠ f := by omega
    rw [va_up_ne V _ e1, va_up_ne M _ e1, va_up_ne R _ e1]
    exact hi i (by omega)
theorem ri_bad {f : Nat} (h : RI (f + 1) F V M R N G t KR K T r) {N2 : Nat → Int64} {t2 : Nat → Bool} {r2 : Int32} (h1 : ∀ j, j < 256 → N2 j = K (f + 1) j) (h2 : ∀ j, j < 256 → t2 j = T (f + 1) j) (h3 : r2 = KR (f + 1)) : RI f F V M R N2 G t2 KR K T r2 := by
  obtain ⟨hd, hF, hN, ht, hr, hi⟩ := h
  obtain ⟨k1, k2, k3⟩ := hi f (by omega)
  exact ⟨by omega, hF, fun j hj => by rw [h1 j hj, k1 j hj], fun u v hu hv => by rw [h2 _ (by omega), k2 u v hu hv], by rw [h3, k3], fun i hid => hi i (by omega)⟩
theorem ri_mark {M1 : Nat → Int64} {t : Nat → Bool} (ht : ∀ u v, u < 4 → v < 64 → t (u * 64 + v) = tb (M1 u) v) {g h : Nat} (hg : g < 4) (hh : h < 64) : ∀ u v, u < 4 → v < 64 → va_up t (g * 64 + h) true (u * 64 + v) = tb (vp_updL M1 g (tbs (M1 g) h) u) v := by
  intro u v hu hv
  by_cases e : u = g
  · subst e
    rw [pk_uLs, tb_set _ hh hv]
    by_cases e2 : v = h
    · subst e2
      rw [va_up_self, decide_eq_true rfl, Bool.or_true]
    · rw [va_up_ne _ _ (by omega), decide_eq_false e2, Bool.or_false, ht u v hu hv]
  · rw [pk_uLn e, va_up_ne _ _ (by omega), ht u v hu hv]
theorem ri_load (q : RI d F V M R N G t KR K T r) {g h : Nat} (hg : g < 4) (hh : h < 64) : RI d F V (va_up M d (vp_updL (M d) g (tbs (M d g) h))) R N G (va_up t (g * 64 + h) true) KR K T r := by
  obtain ⟨hd, hF, hN, ht, hr, hi⟩ := q
  refine ⟨hd, hF, hN, fun u v hu hv => ?_, hr, fun i hid => ?_⟩
  · rw [va_up_self]
    exact ri_mark ht hg hh u v hu hv
  · rw [va_up_ne M _ (show i ≠ d by omega)]
    exact hi i hid
theorem ri_store (q : RI d F V M R N G t KR K T r) {g h : Nat} (hg : g < 4) (hh : h < 64) (x : Int64) (w : Int32) : RI d F (va_up V d (vp_updL (V d) (g * 64 + h) x)) (va_up M d (vp_updL (M d) g (tbs (M d g) h))) (va_up R d (R d + w)) (vp_updL N (g * 64 + h) x) G (va_up t (g * 64 + h) true) KR K T (r + w) := by
  obtain ⟨hd, hF, hN, ht, hr, hi⟩ := q
  refine ⟨hd, hF, fun j hj => ?_, fun u v hu hv => ?_, by rw [va_up_self, hr], fun i hid => ?_⟩
  · rw [va_up_self]
    by_cases e : j = g * 64 + h
    · rw [e, pk_uLs, pk_uLs]
    · rw [pk_uLn e, pk_uLn e, hN j hj]
  · rw [va_up_self]
    exact ri_mark ht hg hh u v hu hv
  · rw [va_up_ne M _ (show i ≠ d by omega), va_up_ne V _ (show i ≠ d by omega), va_up_ne R _ (show i ≠ d by omega)]
    exact hi i hid
end RIS
theorem cntb_word {t : Nat → Bool} {x : Int64} {b : Nat} (h : ∀ v, v < 64 → t (b + v) = tb x v) : ∀ n, n ≤ 64 → cntb t (b + n) = cntb t b + pz_n x.toBitVec.toNat n
  | 0, _ => rfl
  | n + 1, hn => by
    show cntb t (b + n) + (if t (b + n) then 1 else 0) = cntb t b + (pz_n x.toBitVec.toNat n + x.toBitVec.toNat / 2 ^ n % 2)
    rw [cntb_word h n (by omega), h n (by omega)]
    have e : tb x n = decide (x.toBitVec.toNat / 2 ^ n % 2 = 1) := by
      show x.toBitVec.toNat.testBit n = _
      exact Nat.testBit_eq_decide_div_mod_eq
    rw [e]
    by_cases q : x.toBitVec.toNat / 2 ^ n % 2 = 1
    · rw [decide_eq_true q, q]; rfl
    · rw [decide_eq_false q]
      have : x.toBitVec.toNat / 2 ^ n % 2 = 0 := by omega
      rw [this]; rfl
theorem cntb_all {t : Nat → Bool} {f : Nat → Int64} (h : ∀ u v, u < 4 → v < 64 → t (u * 64 + v) = tb (f u) v) : bsum f 4 = cntb t 256 := by
  have key : ∀ n, n ≤ 4 → bsum f n = cntb t (n * 64) := by
    intro n
    induction n with
    | zero => intro _; rfl
    | succ n ih =>
      intro hn
      show bsum f n + pz_n (f n).toBitVec.toNat 64 = _
      rw [ih (by omega), show (n + 1) * 64 = n * 64 + 64 by omega]
      exact (cntb_word (h n · (by omega)) 64 (by omega)).symm
  exact key 4 (by omega)
