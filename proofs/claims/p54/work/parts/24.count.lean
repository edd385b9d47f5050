/-! Integer.bitCount counts the bits -/
def ctB (s : Int32) : Nat → Nat
  | 0 => 0
  | i + 1 => ctB s i + (if hasB s (nI i) = true then 1 else 0)
def pcB (s : Int32) : Nat := ctB s 32
theorem and_split (a b : Nat) : a &&& b = (a % 256 &&& b % 256) + 256 * (a / 256 &&& b / 256) := by
  have h1 : (a &&& b) % 2 ^ 8 = a % 2 ^ 8 &&& b % 2 ^ 8 := Nat.and_mod_two_pow
  have h2 : (a &&& b) / 2 ^ 8 = a / 2 ^ 8 &&& b / 2 ^ 8 := Nat.and_div_two_pow
  have h3 := Nat.mod_add_div (a &&& b) (2 ^ 8)
  rw [h1, h2] at h3
  exact h3.symm
theorem and_4 {x m : Nat} {y0 y1 y2 y3 : Nat} (m0 : Nat) (hm : m = m0 + 256 * (m0 + 256 * (m0 + 256 * m0))) (hm0 : m0 < 256) (h : x = y0 + 256 * (y1 + 256 * (y2 + 256 * y3))) (h0 : y0 < 256) (h1 : y1 < 256) (h2 : y2 < 256) (h3 : y3 < 256) : x &&& m = (y0 &&& m0) + 256 * ((y1 &&& m0) + 256 * ((y2 &&& m0) + 256 * (y3 &&& m0))) := by
  have a1 : x % 256 = y0 := by omega
  have a2 : x / 256 = y1 + 256 * (y2 + 256 * y3) := by omega
  have b1 : m % 256 = m0 := by omega
  have b2 : m / 256 = m0 + 256 * (m0 + 256 * m0) := by omega
  have a3 : (y1 + 256 * (y2 + 256 * y3)) % 256 = y1 := by omega
  have a4 : (y1 + 256 * (y2 + 256 * y3)) / 256 = y2 + 256 * y3 := by omega
  have b3 : (m0 + 256 * (m0 + 256 * m0)) % 256 = m0 := by omega
  have b4 : (m0 + 256 * (m0 + 256 * m0)) / 256 = m0 + 256 * m0 := by omega
  have a5 : (y2 + 256 * y3) % 256 = y2 := by omega
  have a6 : (y2 + 256 * y3) / 256 = y3 := by omega
  have b5 : (m0 + 256 * m0) % 256 = m0 := by omega
  have b6 : (m0 + 256 * m0) / 256 = m0 := by omega
  rw [and_split x m, a1, a2, b1, b2, and_split (y1 + 256 * (y2 + 256 * y3)), a3, a4, b3, b4, and_split (y2 + 256 * y3), a5, a6, b5, b6]
def c81 (b : Nat) : Nat := b - (b / 2 &&& 85)
def c82 (b : Nat) : Nat := (b &&& 51) + (b / 4 &&& 51)
def c83 (b : Nat) : Nat := (b + b / 16) &&& 15
def p8 (b : Nat) : Nat := b % 2 + b / 2 % 2 + b / 4 % 2 + b / 8 % 2 + b / 16 % 2 + b / 32 % 2 + b / 64 % 2 + b / 128 % 2
theorem c8_ok : ∀ b : Nat, b < 256 → c83 (c82 (c81 b)) = p8 b ∧ c81 b < 256 ∧ c82 (c81 b) ≤ 68 ∧ c82 (c81 b) % 16 ≤ 4 ∧ (b / 2 &&& 85) ≤ b ∧ p8 b ≤ 8 := by decide +kernel
theorem m1_ok : ∀ p : Nat, p < 128 → ∀ q : Nat, q < 2 → (p + 128 * q) &&& 85 = p &&& 85 := by decide +kernel
theorem m2_ok : ∀ p : Nat, p < 64 → ∀ q : Nat, q < 4 → (p + 64 * q) &&& 51 = p &&& 51 := by decide +kernel
theorem m3_ok : ∀ p : Nat, p < 80 → ∀ q : Nat, q < 5 → (p + 16 * q) &&& 15 = p &&& 15 := by decide +kernel
/-- four bytes -/
def by4 (y0 y1 y2 y3 : Nat) : Nat := y0 + 256 * (y1 + 256 * (y2 + 256 * y3))
theorem s1_ok {x0 x1 x2 x3 : Nat} (h0 : x0 < 256) (h1 : x1 < 256) (h2 : x2 < 256) (h3 : x3 < 256) : by4 x0 x1 x2 x3 - (by4 x0 x1 x2 x3 / 2 &&& 1431655765) = by4 (c81 x0) (c81 x1) (c81 x2) (c81 x3) ∧ (by4 x0 x1 x2 x3 / 2 &&& 1431655765) ≤ by4 x0 x1 x2 x3 := by
  have e := and_4 (x := by4 x0 x1 x2 x3 / 2) (m := 1431655765) (y0 := x0 / 2 + 128 * (x1 % 2)) (y1 := x1 / 2 + 128 * (x2 % 2)) (y2 := x2 / 2 + 128 * (x3 % 2)) (y3 := x3 / 2) 85 rfl (by omega) (by simp only [by4]; omega) (by omega) (by omega) (by omega) (by omega)
  rw [m1_ok _ (by omega) _ (by omega), m1_ok _ (by omega) _ (by omega), m1_ok _ (by omega) _ (by omega)] at e
  rw [e]
  have k0 := (c8_ok x0 h0).2.2.2.2.1
  have k1 := (c8_ok x1 h1).2.2.2.2.1
  have k2 := (c8_ok x2 h2).2.2.2.2.1
  have k3 := (c8_ok x3 h3).2.2.2.2.1
  simp only [by4, c81]
  generalize x0 / 2 &&& 85 = z0 at *
  generalize x1 / 2 &&& 85 = z1 at *
  generalize x2 / 2 &&& 85 = z2 at *
  generalize x3 / 2 &&& 85 = z3 at *
  omega
theorem s2_ok {x0 x1 x2 x3 : Nat} (h0 : x0 < 256) (h1 : x1 < 256) (h2 : x2 < 256) (h3 : x3 < 256) : (by4 x0 x1 x2 x3 &&& 858993459) + (by4 x0 x1 x2 x3 / 4 &&& 858993459) = by4 (c82 x0) (c82 x1) (c82 x2) (c82 x3) := by
  have e := and_4 (x := by4 x0 x1 x2 x3 / 4) (m := 858993459) (y0 := x0 / 4 + 64 * (x1 % 4)) (y1 := x1 / 4 + 64 * (x2 % 4)) (y2 := x2 / 4 + 64 * (x3 % 4)) (y3 := x3 / 4) 51 rfl (by omega) (by simp only [by4]; omega) (by omega) (by omega) (by omega) (by omega)
  rw [m2_ok _ (by omega) _ (by omega), m2_ok _ (by omega) _ (by omega), m2_ok _ (by omega) _ (by omega)] at e
  have e2 := and_4 (x := by4 x0 x1 x2 x3) (m := 858993459) (y0 := x0) (y1 := x1) (y2 := x2) (y3 := x3) 51 rfl (by omega) (by simp only [by4]) h0 h1 h2 h3
  rw [e, e2]
  simp only [by4, c82]
  omega
theorem s3_ok {x0 x1 x2 x3 : Nat} (h0 : x0 ≤ 68) (h1 : x1 ≤ 68) (h2 : x2 ≤ 68) (h3 : x3 ≤ 68) (g0 : x0 % 16 ≤ 4) (g1 : x1 % 16 ≤ 4) (g2 : x2 % 16 ≤ 4) (g3 : x3 % 16 ≤ 4) : (by4 x0 x1 x2 x3 + by4 x0 x1 x2 x3 / 16) &&& 252645135 = by4 (c83 x0) (c83 x1) (c83 x2) (c83 x3) := by
  have e := and_4 (x := by4 x0 x1 x2 x3 + by4 x0 x1 x2 x3 / 16) (m := 252645135) (y0 := (x0 + x0 / 16) + 16 * (x1 % 16)) (y1 := (x1 + x1 / 16) + 16 * (x2 % 16)) (y2 := (x2 + x2 / 16) + 16 * (x3 % 16)) (y3 := x3 + x3 / 16) 15 rfl (by omega) (by simp only [by4]; omega) (by omega) (by omega) (by omega) (by omega)
  rw [m3_ok _ (by omega) _ (by omega), m3_ok _ (by omega) _ (by omega), m3_ok _ (by omega) _ (by omega)] at e
  rw [e]
  rfl
theorem s4_ok {a b c d : Nat} (ha : a ≤ 8) (hb : b ≤ 8) (hc : c ≤ 8) (hd : d ≤ 8) : ((by4 a b c d + by4 a b c d / 256) + (by4 a b c d + by4 a b c d / 256) / 65536) &&& 63 = a + b + c + d := by
  have h : ∀ x : Nat, x &&& 63 = x % 64 := fun x => Nat.and_two_pow_sub_one_eq_mod x 6
  have h1 : by4 a b c d / 256 = b + 256 * (c + 256 * d) := by simp only [by4]; omega
  have h2 : (by4 a b c d + (b + 256 * (c + 256 * d))) / 65536 = (c + d) + 256 * d := by simp only [by4]; omega
  rw [h, h1, h2]
  simp only [by4]
  omega
/-- the bits of a number below 2^32, by bytes -/
theorem p8_ok (y : Nat) : y % 2 + y / 2 % 2 + y / 4 % 2 + y / 8 % 2 + y / 16 % 2 + y / 32 % 2 + y / 64 % 2 + y / 128 % 2 = p8 (y % 256) := by
  have e1 : y % 256 % 2 = y % 2 := by omega
  have e2 : y % 256 / 2 % 2 = y / 2 % 2 := by omega
  have e3 : y % 256 / 4 % 2 = y / 4 % 2 := by omega
  have e4 : y % 256 / 8 % 2 = y / 8 % 2 := by omega
  have e5 : y % 256 / 16 % 2 = y / 16 % 2 := by omega
  have e6 : y % 256 / 32 % 2 = y / 32 % 2 := by omega
  have e7 : y % 256 / 64 % 2 = y / 64 % 2 := by omega
  have e8 : y % 256 / 128 % 2 = y / 128 % 2 := by omega
  simp only [p8, e1, e2, e3, e4, e5, e6, e7, e8]
theorem ct_8 {s : Int32} {x : Nat} (hb : ∀ i : Nat, i < 32 → (if hasB s (nI i) = true then 1 else 0) = x / 2 ^ i % 2) (k : Nat) (hk : k + 8 ≤ 32) : ctB s (k + 8) = ctB s k + p8 (x / 2 ^ k % 256) := by
  have g : ∀ j : Nat, x / 2 ^ (k + j) = x / 2 ^ k / 2 ^ j := fun j => by rw [Nat.pow_add, Nat.div_div_eq_div_mul]
  have h0 : ctB s (k + 8) = ctB s k + x / 2 ^ k % 2 + x / 2 ^ (k + 1) % 2 + x / 2 ^ (k + 2) % 2 + x / 2 ^ (k + 3) % 2 + x / 2 ^ (k + 4) % 2 + x / 2 ^ (k + 5) % 2 + x / 2 ^ (k + 6) % 2 + x / 2 ^ (k + 7) % 2 := by
    rw [← hb k (by omega), ← hb (k + 1) (by omega), ← hb (k + 2) (by omega), ← hb (k + 3) (by omega), ← hb (k + 4) (by omega), ← hb (k + 5) (by omega), ← hb (k + 6) (by omega), ← hb (k + 7) (by omega)]
    rfl
  rw [h0, g 1, g 2, g 3, g 4, g 5, g 6, g 7, ← p8_ok (x / 2 ^ k)]
  simp only [Nat.reducePow]
  omega
theorem ct_bytes {s : Int32} {x0 x1 x2 x3 : Nat} (h : s.toBitVec.toNat = by4 x0 x1 x2 x3) (h0 : x0 < 256) (h1 : x1 < 256) (h2 : x2 < 256) (h3 : x3 < 256) : pcB s = p8 x0 + p8 x1 + p8 x2 + p8 x3 := by
  obtain ⟨x, hx⟩ : ∃ x, x = by4 x0 x1 x2 x3 := ⟨_, rfl⟩
  rw [← hx] at h
  have hb : ∀ i : Nat, i < 32 → (if hasB s (nI i) = true then 1 else 0) = x / 2 ^ i % 2 := by
    intro i hi
    rw [hasB_bt hi, BitVec.getLsbD, h, Nat.testBit_eq_decide_div_mod_eq]
    have : x / 2 ^ i % 2 = 0 ∨ x / 2 ^ i % 2 = 1 := by omega
    rcases this with q | q <;> simp [q]
  have a0 := ct_8 hb 0 (by omega)
  have a1 := ct_8 hb 8 (by omega)
  have a2 := ct_8 hb 16 (by omega)
  have a3 := ct_8 hb 24 (by omega)
  have b0 : x / 2 ^ 0 % 256 = x0 := by rw [hx]; simp only [by4, Nat.reducePow]; omega
  have b1 : x / 2 ^ 8 % 256 = x1 := by rw [hx]; simp only [by4, Nat.reducePow]; omega
  have b2 : x / 2 ^ 16 % 256 = x2 := by rw [hx]; simp only [by4, Nat.reducePow]; omega
  have b3 : x / 2 ^ 24 % 256 = x3 := by rw [hx]; simp only [by4, Nat.reducePow]; omega
  rw [b0] at a0; rw [b1] at a1; rw [b2] at a2; rw [b3] at a3
  show ctB s 32 = _
  have z : ctB s 0 = 0 := rfl
  simp only [Nat.reduceAdd] at a0 a1 a2 a3
  omega
theorem ush_nat (x : Int32) (k : Nat) (hk : k < 32) (y : Int32) (hy : (y.toUInt32 &&& Int32.toUInt32 31).toBitVec = BitVec.ofNat 32 k) : ((x.toUInt32 >>> (y.toUInt32 &&& Int32.toUInt32 31)).toInt32).toBitVec.toNat = x.toBitVec.toNat / 2 ^ k := by
  show (x.toUInt32 >>> (y.toUInt32 &&& Int32.toUInt32 31)).toBitVec.toNat = _
  rw [UInt32.toBitVec_shiftRight, hy]
  have h1 : (BitVec.ofNat 32 k % 32).toNat = k := by
    rw [BitVec.toNat_umod, BitVec.toNat_ofNat]
    have : k % 2 ^ 32 = k := Nat.mod_eq_of_lt (by omega)
    rw [this]
    show k % 32 = k
    omega
  rw [show (x.toUInt32.toBitVec >>> (BitVec.ofNat 32 k % 32)) = x.toUInt32.toBitVec >>> (BitVec.ofNat 32 k % 32).toNat from rfl, h1, BitVec.toNat_ushiftRight, Nat.shiftRight_eq_div_pow]
  rfl
theorem and_nat (x : Int32) (m : Nat) (hm : m < 2 ^ 31) : (x &&& nI m).toBitVec.toNat = x.toBitVec.toNat &&& m := by
  rw [Int32.toBitVec_and, BitVec.toNat_and]
  congr 1
  show (BitVec.ofNat 32 m).toNat = m
  rw [BitVec.toNat_ofNat]; exact Nat.mod_eq_of_lt (by omega)
theorem bcJ_pc (s : Int32) : bcJ s = nI (pcB s) := by
  obtain ⟨x, hx⟩ : ∃ x, x = s.toBitVec.toNat := ⟨_, rfl⟩
  have hlt : x < 2 ^ 32 := by rw [hx]; exact s.toBitVec.isLt
  obtain ⟨x0, e0⟩ : ∃ z, z = x % 256 := ⟨_, rfl⟩
  obtain ⟨x1, e1⟩ : ∃ z, z = x / 256 % 256 := ⟨_, rfl⟩
  obtain ⟨x2, e2⟩ : ∃ z, z = x / 65536 % 256 := ⟨_, rfl⟩
  obtain ⟨x3, e3⟩ : ∃ z, z = x / 16777216 % 256 := ⟨_, rfl⟩
  have l0 : x0 < 256 := by omega
  have l1 : x1 < 256 := by omega
  have l2 : x2 < 256 := by omega
  have l3 : x3 < 256 := by omega
  have hb : s.toBitVec.toNat = by4 x0 x1 x2 x3 := by rw [← hx]; simp only [by4]; omega
  rw [ct_bytes hb l0 l1 l2 l3]
  have c0 := c8_ok x0 l0
  have c1 := c8_ok x1 l1
  have c2 := c8_ok x2 l2
  have c3 := c8_ok x3 l3
  obtain ⟨a, ha⟩ : ∃ z : Int32, z = s - (((s.toUInt32 >>> ((1 : Int32).toUInt32 &&& Int32.toUInt32 31)).toInt32) &&& 1431655765) := ⟨_, rfl⟩
  have na : a.toBitVec.toNat = by4 (c81 x0) (c81 x1) (c81 x2) (c81 x3) := by
    have q := s1_ok l0 l1 l2 l3
    rw [ha, Int32.toBitVec_sub, BitVec.toNat_sub]
    have q2 : (((s.toUInt32 >>> ((1 : Int32).toUInt32 &&& Int32.toUInt32 31)).toInt32) &&& 1431655765).toBitVec.toNat = by4 x0 x1 x2 x3 / 2 &&& 1431655765 := by
      rw [show (1431655765 : Int32) = nI 1431655765 from rfl, and_nat _ _ (by decide), ush_nat s 1 (by decide) 1 (by decide), hb]
    rw [q2, hb, ← q.1]
    have := q.2
    have hl2 : by4 x0 x1 x2 x3 < 2 ^ 32 := by rw [← hb]; exact s.toBitVec.isLt
    omega
  obtain ⟨b, hbb⟩ : ∃ z : Int32, z = (a &&& 858993459) + (((a.toUInt32 >>> ((2 : Int32).toUInt32 &&& Int32.toUInt32 31)).toInt32) &&& 858993459) := ⟨_, rfl⟩
  have nb : b.toBitVec.toNat = by4 (c82 (c81 x0)) (c82 (c81 x1)) (c82 (c81 x2)) (c82 (c81 x3)) := by
    have q := s2_ok c0.2.1 c1.2.1 c2.2.1 c3.2.1
    rw [hbb, Int32.toBitVec_add, BitVec.toNat_add]
    rw [show (858993459 : Int32) = nI 858993459 from rfl, and_nat _ _ (by decide), and_nat _ _ (by decide), ush_nat a 2 (by decide) 2 (by decide), na]
    rw [show (2 : Nat) ^ 2 = 4 from rfl, q]
    refine Nat.mod_eq_of_lt ?_
    simp only [by4]; omega
  obtain ⟨c, hcc⟩ : ∃ z : Int32, z = (b + (b.toUInt32 >>> ((4 : Int32).toUInt32 &&& Int32.toUInt32 31)).toInt32) &&& 252645135 := ⟨_, rfl⟩
  have nc : c.toBitVec.toNat = by4 (p8 x0) (p8 x1) (p8 x2) (p8 x3) := by
    have q := s3_ok c0.2.2.1 c1.2.2.1 c2.2.2.1 c3.2.2.1 c0.2.2.2.1 c1.2.2.2.1 c2.2.2.2.1 c3.2.2.2.1
    rw [c0.1, c1.1, c2.1, c3.1] at q
    rw [hcc, show (252645135 : Int32) = nI 252645135 from rfl, and_nat _ _ (by decide), Int32.toBitVec_add, BitVec.toNat_add, ush_nat b 4 (by decide) 4 (by decide), nb]
    rw [show (2 : Nat) ^ 4 = 16 from rfl, Nat.mod_eq_of_lt (a := _ + _) (by simp only [by4]; omega), q]
  obtain ⟨d, hdd⟩ : ∃ z : Int32, z = c + (c.toUInt32 >>> ((8 : Int32).toUInt32 &&& Int32.toUInt32 31)).toInt32 := ⟨_, rfl⟩
  have nd : d.toBitVec.toNat = by4 (p8 x0) (p8 x1) (p8 x2) (p8 x3) + by4 (p8 x0) (p8 x1) (p8 x2) (p8 x3) / 256 := by
    rw [hdd, Int32.toBitVec_add, BitVec.toNat_add, ush_nat c 8 (by decide) 8 (by decide), nc]
    rw [show (2 : Nat) ^ 8 = 256 from rfl]
    refine Nat.mod_eq_of_lt ?_
    have := c0.2.2.2.2.2; have := c1.2.2.2.2.2; have := c2.2.2.2.2.2; have := c3.2.2.2.2.2
    simp only [by4]; omega
  have fin : (bcJ s).toBitVec.toNat = p8 x0 + p8 x1 + p8 x2 + p8 x3 := by
    have e : bcJ s = (d + (d.toUInt32 >>> ((16 : Int32).toUInt32 &&& Int32.toUInt32 31)).toInt32) &&& 63 := by
      rw [hdd, hcc, hbb, ha]; rfl
    rw [e, show (63 : Int32) = nI 63 from rfl, and_nat _ _ (by decide), Int32.toBitVec_add, BitVec.toNat_add, ush_nat d 16 (by decide) 16 (by decide), nd]
    have q := s4_ok c0.2.2.2.2.2 c1.2.2.2.2.2 c2.2.2.2.2.2 c3.2.2.2.2.2
    rw [show (2 : Nat) ^ 16 = 65536 from rfl, Nat.mod_eq_of_lt (a := _ + _) (by have := c0.2.2.2.2.2; have := c1.2.2.2.2.2; have := c2.2.2.2.2.2; have := c3.2.2.2.2.2; simp only [by4]; omega), q]
  apply Int32.toBitVec_inj.mp
  apply BitVec.eq_of_toNat_eq
  rw [fin]
  show _ = (BitVec.ofNat 32 _).toNat
  rw [BitVec.toNat_ofNat, Nat.mod_eq_of_lt]
  have := c0.2.2.2.2.2; have := c1.2.2.2.2.2; have := c2.2.2.2.2.2; have := c3.2.2.2.2.2
  omega
