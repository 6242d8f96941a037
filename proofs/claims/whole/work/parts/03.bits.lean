/-! counting the bits of a long, as the JDK does it: in words of eight digits to the base 256 -/
theorem pz_and {w a b X Y : Nat} (ha : a < 2 ^ w) (hb : b < 2 ^ w) : (2 ^ w * X + a) &&& (2 ^ w * Y + b) = 2 ^ w * (X &&& Y) + (a &&& b) := by
  apply Nat.eq_of_testBit_eq
  intro i
  rw [Nat.testBit_and, Nat.testBit_two_pow_mul_add _ ha, Nat.testBit_two_pow_mul_add _ hb, Nat.testBit_two_pow_mul_add _ (Nat.and_lt_two_pow _ hb)]
  split <;> rw [Nat.testBit_and]
theorem pz_shr {w s a b X Y : Nat} (hs : s ≤ w) (ha : a < 2 ^ w) (hb : b < 2 ^ (w - s)) : ((2 ^ w * X + a) >>> s) &&& (2 ^ w * Y + b) = 2 ^ w * ((X >>> s) &&& Y) + ((a >>> s) &&& b) := by
  have hb' : b < 2 ^ w := Nat.lt_of_lt_of_le hb (Nat.pow_le_pow_right (by decide) (Nat.sub_le w s))
  apply Nat.eq_of_testBit_eq
  intro i
  rw [Nat.testBit_and, Nat.testBit_shiftRight, Nat.testBit_two_pow_mul_add _ ha, Nat.testBit_two_pow_mul_add _ hb', Nat.testBit_two_pow_mul_add _ (Nat.and_lt_two_pow _ hb')]
  by_cases h1 : i < w
  · rw [if_pos h1, if_pos h1, Nat.testBit_and, Nat.testBit_shiftRight]
    by_cases h2 : s + i < w
    · rw [if_pos h2]
    · have h3 : b.testBit i = false := Nat.testBit_lt_two_pow (Nat.lt_of_lt_of_le hb (Nat.pow_le_pow_right (by decide) (by omega)))
      rw [h3, Bool.and_false, Bool.and_false]
  · rw [if_neg h1, if_neg h1, if_neg (by omega), Nat.testBit_and, Nat.testBit_shiftRight, show s + i - w = s + (i - w) by omega]
def pz_d : List Nat → Nat
  | [] => 0
  | b :: l => 2 ^ 8 * pz_d l + b
theorem pz_dand (m : Nat) (hm : m < 2 ^ 8) : ∀ l : List Nat, (∀ b ∈ l, b < 2 ^ 8) → pz_d l &&& pz_d (l.map (fun _ => m)) = pz_d (l.map (fun b => b &&& m))
  | [], _ => by simp [pz_d]
  | b :: l, h => by
    show (2 ^ 8 * pz_d l + b) &&& (2 ^ 8 * pz_d (l.map (fun _ => m)) + m) = 2 ^ 8 * pz_d (l.map (fun b => b &&& m)) + (b &&& m)
    rw [pz_and (h b List.mem_cons_self) hm, pz_dand m hm l (fun b hb => h b (List.mem_cons_of_mem _ hb))]
theorem pz_dshr (s m : Nat) (hs : s ≤ 8) (hm : m < 2 ^ (8 - s)) : ∀ l : List Nat, (∀ b ∈ l, b < 2 ^ 8) → (pz_d l >>> s) &&& pz_d (l.map (fun _ => m)) = pz_d (l.map (fun b => (b >>> s) &&& m))
  | [], _ => Nat.and_zero _
  | b :: l, h => by
    show ((2 ^ 8 * pz_d l + b) >>> s) &&& (2 ^ 8 * pz_d (l.map (fun _ => m)) + m) = 2 ^ 8 * pz_d (l.map (fun b => (b >>> s) &&& m)) + ((b >>> s) &&& m)
    rw [pz_shr hs (h b List.mem_cons_self) hm, pz_dshr s m hs hm l (fun b hb => h b (List.mem_cons_of_mem _ hb))]
theorem pz_dsub (f : Nat → Nat) : ∀ l : List Nat, (∀ b ∈ l, f b ≤ b) → pz_d l - pz_d (l.map f) = pz_d (l.map (fun b => b - f b)) ∧ pz_d (l.map f) ≤ pz_d l
  | [], _ => ⟨rfl, Nat.le_refl _⟩
  | b :: l, h => by
    obtain ⟨h1, h2⟩ := pz_dsub f l (fun b hb => h b (List.mem_cons_of_mem _ hb))
    have h3 := h b List.mem_cons_self
    show (2 ^ 8 * pz_d l + b) - (2 ^ 8 * pz_d (l.map f) + f b) = 2 ^ 8 * pz_d (l.map (fun b => b - f b)) + (b - f b) ∧ 2 ^ 8 * pz_d (l.map f) + f b ≤ 2 ^ 8 * pz_d l + b
    rw [← h1]
    omega
theorem pz_dadd (f g : Nat → Nat) : ∀ l : List Nat, pz_d (l.map f) + pz_d (l.map g) = pz_d (l.map (fun b => f b + g b))
  | [] => rfl
  | b :: l => by
    have h1 := pz_dadd f g l
    show (2 ^ 8 * pz_d (l.map f) + f b) + (2 ^ 8 * pz_d (l.map g) + g b) = 2 ^ 8 * pz_d (l.map (fun b => f b + g b)) + (f b + g b)
    rw [← h1]
    omega
def pz_k1 (b : Nat) : Nat := b - ((b >>> 1) &&& 85)
def pz_k2 (c : Nat) : Nat := (c &&& 51) + ((c >>> 2) &&& 51)
def pz_k3 (c : Nat) : Nat := c % 16 + c / 16
def pz_b (b : Nat) : Nat := b % 2 + b / 2 % 2 + b / 4 % 2 + b / 8 % 2 + b / 16 % 2 + b / 32 % 2 + b / 64 % 2 + b / 128 % 2
theorem pz_byte : ∀ b, b < 256 → ((b >>> 1) &&& 85) ≤ b ∧ pz_k1 b < 256 ∧ pz_k2 (pz_k1 b) % 16 ≤ 4 ∧ pz_k2 (pz_k1 b) / 16 ≤ 4 ∧ pz_k3 (pz_k2 (pz_k1 b)) = pz_b b ∧ pz_b b ≤ 8 := by decide +kernel
theorem pz_12 (l : List Nat) (hl : l.length = 8) (h : ∀ b ∈ l, b < 256) (v : Nat) (hv : v = pz_d l - ((pz_d l >>> 1) &&& 6148914691236517205)) :
    ((pz_d l >>> 1) &&& 6148914691236517205) ≤ pz_d l ∧ (v &&& 3689348814741910323) + ((v >>> 2) &&& 3689348814741910323) = pz_d (l.map (fun b => pz_k2 (pz_k1 b))) := by
  have m1 : (6148914691236517205 : Nat) = pz_d (l.map (fun _ => 85)) := by
    rw [List.map_const', hl]; rfl
  have e1 := pz_dshr 1 85 (by decide) (by decide) l h
  rw [m1, e1] at hv ⊢
  obtain ⟨s1, s2⟩ := pz_dsub (fun b => (b >>> 1) &&& 85) l (fun b hb => (pz_byte b (h b hb)).1)
  refine ⟨s2, ?_⟩
  rw [s1] at hv
  have hv : v = pz_d (l.map pz_k1) := hv
  have h2 : ∀ b ∈ l.map pz_k1, b < 2 ^ 8 := by
    intro b hb
    obtain ⟨a, ha, rfl⟩ := List.mem_map.mp hb
    exact (pz_byte a (h a ha)).2.1
  have m2 : (3689348814741910323 : Nat) = pz_d ((l.map pz_k1).map (fun _ => 51)) := by
    rw [List.map_const', List.length_map, hl]; rfl
  rw [hv, m2, pz_dshr 2 51 (by decide) (by decide) _ h2, pz_dand 51 (by decide) _ h2, pz_dadd, List.map_map]
  rfl
theorem pz_3 {c0 c1 c2 c3 c4 c5 c6 c7 : Nat} (h : ∀ c ∈ [c0, c1, c2, c3, c4, c5, c6, c7], c % 16 ≤ 4 ∧ c / 16 ≤ 4) (v : Nat) (hv : v = pz_d [c0, c1, c2, c3, c4, c5, c6, c7]) :
    (v + (v >>> 4)) &&& 1085102592571150095 = pz_d ([c0, c1, c2, c3, c4, c5, c6, c7].map pz_k3) := by
  have q0 := h c0 (by simp)
  have q1 := h c1 (by simp)
  have q2 := h c2 (by simp)
  have q3 := h c3 (by simp)
  have q4 := h c4 (by simp)
  have q5 := h c5 (by simp)
  have q6 := h c6 (by simp)
  have q7 := h c7 (by simp)
  have e : v + (v >>> 4) = pz_d [c0 + c0 / 16 + 16 * (c1 % 16), c1 + c1 / 16 + 16 * (c2 % 16), c2 + c2 / 16 + 16 * (c3 % 16), c3 + c3 / 16 + 16 * (c4 % 16), c4 + c4 / 16 + 16 * (c5 % 16), c5 + c5 / 16 + 16 * (c6 % 16), c6 + c6 / 16 + 16 * (c7 % 16), c7 + c7 / 16] := by
    rw [hv, Nat.shiftRight_eq_div_pow]
    simp only [pz_d]
    omega
  rw [e]
  have m : (1085102592571150095 : Nat) = pz_d ([c0 + c0 / 16 + 16 * (c1 % 16), c1 + c1 / 16 + 16 * (c2 % 16), c2 + c2 / 16 + 16 * (c3 % 16), c3 + c3 / 16 + 16 * (c4 % 16), c4 + c4 / 16 + 16 * (c5 % 16), c5 + c5 / 16 + 16 * (c6 % 16), c6 + c6 / 16 + 16 * (c7 % 16), c7 + c7 / 16].map (fun _ => 15)) := by simp [pz_d]
  rw [m, pz_dand 15 (by decide) _ (by
    intro b hb
    simp only [List.mem_cons, List.not_mem_nil, or_false] at hb
    omega)]
  have k : ∀ a : Nat, a &&& 15 = a % 16 := fun a => Nat.and_two_pow_sub_one_eq_mod a 4
  have z : ∀ c x : Nat, c % 16 ≤ 4 ∧ c / 16 ≤ 4 → (c + c / 16 + 16 * x) % 16 = c % 16 + c / 16 := by
    intro c x h
    omega
  have z7 : ∀ c : Nat, c % 16 ≤ 4 ∧ c / 16 ≤ 4 → (c + c / 16) % 16 = c % 16 + c / 16 := by
    intro c h
    omega
  simp only [List.map_cons, List.map_nil, k, pz_k3]
  rw [z c0 _ q0, z c1 _ q1, z c2 _ q2, z c3 _ q3, z c4 _ q4, z c5 _ q5, z c6 _ q6, z7 c7 q7]
theorem pz_456 {d0 d1 d2 d3 d4 d5 d6 d7 : Nat} (h : ∀ d ∈ [d0, d1, d2, d3, d4, d5, d6, d7], d ≤ 8) (v3 v4 v5 : Nat) (h3 : v3 = pz_d [d0, d1, d2, d3, d4, d5, d6, d7]) (h4 : v4 = v3 + v3 / 256) (h5 : v5 = v4 + v4 / 65536) :
    v5 + v5 / 4294967296 < 2 ^ 64 ∧ (v5 + v5 / 4294967296) % 128 = d0 + d1 + d2 + d3 + d4 + d5 + d6 + d7 := by
  have q0 := h d0 (by simp)
  have q1 := h d1 (by simp)
  have q2 := h d2 (by simp)
  have q3 := h d3 (by simp)
  have q4 := h d4 (by simp)
  have q5 := h d5 (by simp)
  have q6 := h d6 (by simp)
  have q7 := h d7 (by simp)
  have e4 : v4 = pz_d [d0 + d1, d1 + d2, d2 + d3, d3 + d4, d4 + d5, d5 + d6, d6 + d7, d7] := by
    rw [h4, h3]
    simp only [pz_d]
    omega
  have e5 : v5 = pz_d [d0 + d1 + d2 + d3, d1 + d2 + d3 + d4, d2 + d3 + d4 + d5, d3 + d4 + d5 + d6, d4 + d5 + d6 + d7, d5 + d6 + d7, d6 + d7, d7] := by
    rw [h5, e4]
    simp only [pz_d]
    omega
  have e6 : v5 / 4294967296 = pz_d [d4 + d5 + d6 + d7, d5 + d6 + d7, d6 + d7, d7] := by
    rw [e5]
    simp only [pz_d]
    omega
  rw [e6, e5]
  simp only [pz_d]
  omega
/-- how many of the first n bits of x are 1 -/
def pz_n (x : Nat) : Nat → Nat
  | 0 => 0
  | n + 1 => pz_n x n + x / 2 ^ n % 2
theorem pz_bits (x y k : Nat) (h : x / 256 ^ k = y) : pz_n x (8 * k + 8) = pz_n x (8 * k) + pz_b (y % 256) := by
  have hp : ∀ i, x / 2 ^ (8 * k + i) = y / 2 ^ i := by
    intro i
    rw [← h, Nat.div_div_eq_div_mul, Nat.pow_add, Nat.pow_mul]
  have hp0 := hp 0
  rw [Nat.add_zero] at hp0
  have r0 : y % 256 % 2 = y / 2 ^ 0 % 2 := by omega
  have r1 : y % 256 / 2 % 2 = y / 2 ^ 1 % 2 := by omega
  have r2 : y % 256 / 4 % 2 = y / 2 ^ 2 % 2 := by omega
  have r3 : y % 256 / 8 % 2 = y / 2 ^ 3 % 2 := by omega
  have r4 : y % 256 / 16 % 2 = y / 2 ^ 4 % 2 := by omega
  have r5 : y % 256 / 32 % 2 = y / 2 ^ 5 % 2 := by omega
  have r6 : y % 256 / 64 % 2 = y / 2 ^ 6 % 2 := by omega
  have r7 : y % 256 / 128 % 2 = y / 2 ^ 7 % 2 := by omega
  unfold pz_b
  rw [r0, r1, r2, r3, r4, r5, r6, r7]
  show pz_n x (8 * k) + x / 2 ^ (8 * k) % 2 + x / 2 ^ (8 * k + 1) % 2 + x / 2 ^ (8 * k + 2) % 2 + x / 2 ^ (8 * k + 3) % 2 + x / 2 ^ (8 * k + 4) % 2 + x / 2 ^ (8 * k + 5) % 2 + x / 2 ^ (8 * k + 6) % 2 + x / 2 ^ (8 * k + 7) % 2 = _
  rw [hp0, hp 1, hp 2, hp 3, hp 4, hp 5, hp 6, hp 7]
  simp only [Nat.add_assoc]
theorem pz_all {x v1 v2 v3 v4 v5 : Nat} (hx : x < 2 ^ 64) (h1 : v1 = x - ((x / 2) &&& 6148914691236517205)) (h2 : v2 = (v1 &&& 3689348814741910323) + ((v1 / 4) &&& 3689348814741910323)) (h3 : v3 = (v2 + v2 / 16) &&& 1085102592571150095) (h4 : v4 = v3 + v3 / 256) (h5 : v5 = v4 + v4 / 65536) :
    ((x / 2) &&& 6148914691236517205) ≤ x ∧ v5 + v5 / 4294967296 < 2 ^ 64 ∧ (v5 + v5 / 4294967296) % 128 = pz_n x 64 := by
  have dd : ∀ a b : Nat, x / a / b = x / (a * b) := fun a b => Nat.div_div_eq_div_mul x a b
  obtain ⟨y1, e1⟩ : ∃ y, y = x / 256 := ⟨_, rfl⟩
  obtain ⟨y2, e2⟩ : ∃ y, y = y1 / 256 := ⟨_, rfl⟩
  obtain ⟨y3, e3⟩ : ∃ y, y = y2 / 256 := ⟨_, rfl⟩
  obtain ⟨y4, e4⟩ : ∃ y, y = y3 / 256 := ⟨_, rfl⟩
  obtain ⟨y5, e5⟩ : ∃ y, y = y4 / 256 := ⟨_, rfl⟩
  obtain ⟨y6, e6⟩ : ∃ y, y = y5 / 256 := ⟨_, rfl⟩
  obtain ⟨y7, e7⟩ : ∃ y, y = y6 / 256 := ⟨_, rfl⟩
  have q0 := pz_bits x x 0 (by simp)
  have q1 := pz_bits x y1 1 e1.symm
  have q2 := pz_bits x y2 2 (by rw [e2, e1, dd])
  have q3 := pz_bits x y3 3 (by rw [e3, e2, e1, dd, dd])
  have q4 := pz_bits x y4 4 (by rw [e4, e3, e2, e1, dd, dd, dd])
  have q5 := pz_bits x y5 5 (by rw [e5, e4, e3, e2, e1, dd, dd, dd, dd])
  have q6 := pz_bits x y6 6 (by rw [e6, e5, e4, e3, e2, e1, dd, dd, dd, dd, dd])
  have q7 := pz_bits x y7 7 (by rw [e7, e6, e5, e4, e3, e2, e1, dd, dd, dd, dd, dd, dd])
  have m0 := Nat.div_add_mod x 256
  have m1 := Nat.div_add_mod y1 256
  have m2 := Nat.div_add_mod y2 256
  have m3 := Nat.div_add_mod y3 256
  have m4 := Nat.div_add_mod y4 256
  have m5 := Nat.div_add_mod y5 256
  have m6 := Nat.div_add_mod y6 256
  rw [← e1] at m0
  rw [← e2] at m1
  rw [← e3] at m2
  rw [← e4] at m3
  rw [← e5] at m4
  rw [← e6] at m5
  rw [← e7] at m6
  have c0 := Nat.mod_lt x (show 0 < 256 by decide)
  have c1 := Nat.mod_lt y1 (show 0 < 256 by decide)
  have c2 := Nat.mod_lt y2 (show 0 < 256 by decide)
  have c3 := Nat.mod_lt y3 (show 0 < 256 by decide)
  have c4 := Nat.mod_lt y4 (show 0 < 256 by decide)
  have c5 := Nat.mod_lt y5 (show 0 < 256 by decide)
  have c6 := Nat.mod_lt y6 (show 0 < 256 by decide)
  clear e1 e2 e3 e4 e5 e6 e7 dd
  generalize x % 256 = b0 at *
  generalize y1 % 256 = b1 at *
  generalize y2 % 256 = b2 at *
  generalize y3 % 256 = b3 at *
  generalize y4 % 256 = b4 at *
  generalize y5 % 256 = b5 at *
  generalize y6 % 256 = b6 at *
  have c7 : y7 < 256 := by omega
  rw [Nat.mod_eq_of_lt c7] at q7
  have ex : x = pz_d [b0, b1, b2, b3, b4, b5, b6, y7] := by
    simp only [pz_d]
    omega
  have g0 := pz_byte b0 c0
  have g1 := pz_byte b1 c1
  have g2 := pz_byte b2 c2
  have g3 := pz_byte b3 c3
  have g4 := pz_byte b4 c4
  have g5 := pz_byte b5 c5
  have g6 := pz_byte b6 c6
  have g7 := pz_byte y7 c7
  have hl : ∀ b ∈ [b0, b1, b2, b3, b4, b5, b6, y7], b < 256 := by
    intro b hb
    simp only [List.mem_cons, List.not_mem_nil, or_false] at hb
    rcases hb with rfl | rfl | rfl | rfl | rfl | rfl | rfl | rfl <;> assumption
  obtain ⟨p1, p2⟩ := pz_12 [b0, b1, b2, b3, b4, b5, b6, y7] rfl hl v1 (by rw [← ex, Nat.shiftRight_eq_div_pow]; exact h1)
  rw [← ex, Nat.shiftRight_eq_div_pow] at p1
  rw [Nat.shiftRight_eq_div_pow] at p2
  have p2 : v2 = pz_d [pz_k2 (pz_k1 b0), pz_k2 (pz_k1 b1), pz_k2 (pz_k1 b2), pz_k2 (pz_k1 b3), pz_k2 (pz_k1 b4), pz_k2 (pz_k1 b5), pz_k2 (pz_k1 b6), pz_k2 (pz_k1 y7)] := h2.trans p2
  have p3 := pz_3 (fun c hc => by
    simp only [List.mem_cons, List.not_mem_nil, or_false] at hc
    rcases hc with rfl | rfl | rfl | rfl | rfl | rfl | rfl | rfl
    · exact ⟨g0.2.2.1, g0.2.2.2.1⟩
    · exact ⟨g1.2.2.1, g1.2.2.2.1⟩
    · exact ⟨g2.2.2.1, g2.2.2.2.1⟩
    · exact ⟨g3.2.2.1, g3.2.2.2.1⟩
    · exact ⟨g4.2.2.1, g4.2.2.2.1⟩
    · exact ⟨g5.2.2.1, g5.2.2.2.1⟩
    · exact ⟨g6.2.2.1, g6.2.2.2.1⟩
    · exact ⟨g7.2.2.1, g7.2.2.2.1⟩) v2 p2
  rw [Nat.shiftRight_eq_div_pow] at p3
  have p3 : v3 = pz_d [pz_b b0, pz_b b1, pz_b b2, pz_b b3, pz_b b4, pz_b b5, pz_b b6, pz_b y7] := by
    refine h3.trans (p3.trans ?_)
    simp only [List.map_cons, List.map_nil]
    rw [g0.2.2.2.2.1, g1.2.2.2.2.1, g2.2.2.2.2.1, g3.2.2.2.2.1, g4.2.2.2.2.1, g5.2.2.2.2.1, g6.2.2.2.2.1, g7.2.2.2.2.1]
  have f0 := g0.2.2.2.2.2
  have f1 := g1.2.2.2.2.2
  have f2 := g2.2.2.2.2.2
  have f3 := g3.2.2.2.2.2
  have f4 := g4.2.2.2.2.2
  have f5 := g5.2.2.2.2.2
  have f6 := g6.2.2.2.2.2
  have f7 := g7.2.2.2.2.2
  obtain ⟨p4, p5⟩ := pz_456 (fun d hd => by
    simp only [List.mem_cons, List.not_mem_nil, or_false] at hd
    rcases hd with rfl | rfl | rfl | rfl | rfl | rfl | rfl | rfl <;> assumption) v3 v4 v5 p3 h4 h5
  refine ⟨p1, p4, p5.trans ?_⟩
  simp only [Nat.mul_zero, Nat.zero_add, Nat.reduceMul, Nat.reduceAdd] at q0 q1 q2 q3 q4 q5 q6 q7
  have q9 : pz_n x 0 = 0 := rfl
  rw [q7, q6, q5, q4, q3, q2, q1, q0, q9]
  omega
