def bt (x : Int32) (i : Nat) : Bool := x.toBitVec.getLsbD i
theorem b_ext {x y : Int32} (h : ∀ i, i < 32 → bt x i = bt y i) : x = y := Int32.toBitVec_inj.mp (BitVec.eq_of_getLsbD_eq (fun i hi => h i hi))
theorem b_or (x y : Int32) (i : Nat) : bt (x ||| y) i = (bt x i || bt y i) := by unfold bt; rw [Int32.toBitVec_or, BitVec.getLsbD_or]
theorem b_and (x y : Int32) (i : Nat) : bt (x &&& y) i = (bt x i && bt y i) := by unfold bt; rw [Int32.toBitVec_and, BitVec.getLsbD_and]
theorem b_xor (x y : Int32) (i : Nat) : bt (x ^^^ y) i = (bt x i ^^ bt y i) := by unfold bt; rw [Int32.toBitVec_xor, BitVec.getLsbD_xor]
theorem b_big {x : Int32} {i : Nat} (h : 32 ≤ i) : bt x i = false := BitVec.getLsbD_of_ge _ _ h
theorem b_255 (i : Nat) : bt 255 i = decide (i < 8) := by
  rcases Nat.lt_or_ge i 32 with h | h
  · exact (by decide +kernel : ∀ i, i < 32 → bt 255 i = decide (i < 8)) i h
  · rw [b_big h, decide_eq_false (by omega)]
theorem b_65535 (i : Nat) : bt 65535 i = decide (i < 16) := by
  rcases Nat.lt_or_ge i 32 with h | h
  · exact (by decide +kernel : ∀ i, i < 32 → bt 65535 i = decide (i < 16)) i h
  · rw [b_big h, decide_eq_false (by omega)]
theorem b_m1 : ∀ i, i < 32 → bt (-1) i = true := by decide +kernel
theorem b_0 (i : Nat) : bt 0 i = false := BitVec.getLsbD_zero
theorem s_l : ∀ n, n < 32 → ((nI n &&& 31).toBitVec.smod 32).toNat = n := by decide +kernel
theorem s_u : ∀ n, n < 32 → (((nI n).toUInt32 &&& Int32.toUInt32 31).toBitVec % 32).toNat = n := by decide +kernel
theorem b_shl (n : Nat) (hn : n < 32) (x : Int32) {i : Nat} (hi : i < 32) : bt (x <<< (nI n &&& 31)) i = (decide (n ≤ i) && bt x (i - n)) := by
  unfold bt
  rw [Int32.toBitVec_shiftLeft]
  show (x.toBitVec <<< ((nI n &&& 31).toBitVec.smod 32).toNat).getLsbD i = _
  rw [s_l n hn, BitVec.getLsbD_shiftLeft]
  rcases Nat.lt_or_ge i n with h | h
  · simp [h, Nat.not_le.mpr h]
  · simp [hi, h, Nat.not_lt.mpr h]
theorem b_ushr (n : Nat) (hn : n < 32) (x : Int32) (i : Nat) : bt ((x.toUInt32 >>> ((nI n).toUInt32 &&& Int32.toUInt32 31)).toInt32) i = bt x (n + i) := by
  show (x.toUInt32 >>> ((nI n).toUInt32 &&& Int32.toUInt32 31)).toBitVec.getLsbD i = x.toUInt32.toBitVec.getLsbD (n + i)
  rw [UInt32.toBitVec_shiftRight]
  show (x.toUInt32.toBitVec >>> (((nI n).toUInt32 &&& Int32.toUInt32 31).toBitVec % 32).toNat).getLsbD i = _
  rw [s_u n hn, BitVec.getLsbD_ushiftRight]
theorem b_sshr (n : Nat) (hn : n < 32) (x : Int32) {i : Nat} (hi : i < 32) : bt (x >>> (nI n &&& 31)) i = if n + i < 32 then bt x (n + i) else bt x 31 := by
  unfold bt
  rw [Int32.toBitVec_shiftRight]
  show (x.toBitVec.sshiftRight ((nI n &&& 31).toBitVec.smod 32).toNat).getLsbD i = _
  rw [s_l n hn, BitVec.getLsbD_sshiftRight, BitVec.msb_eq_getLsbD_last]
  simp [hi]
theorem b_shl8 (x : Int32) {i : Nat} (hi : i < 32) : bt (x <<< ((8 : Int32) &&& 31)) i = (decide (8 ≤ i) && bt x (i - 8)) := b_shl 8 (by omega) x hi
theorem b_shl16 (x : Int32) {i : Nat} (hi : i < 32) : bt (x <<< ((16 : Int32) &&& 31)) i = (decide (16 ≤ i) && bt x (i - 16)) := b_shl 16 (by omega) x hi
theorem b_shl24 (x : Int32) {i : Nat} (hi : i < 32) : bt (x <<< ((24 : Int32) &&& 31)) i = (decide (24 ≤ i) && bt x (i - 24)) := b_shl 24 (by omega) x hi
theorem b_sshr8 (x : Int32) {i : Nat} (hi : i < 32) : bt (x >>> ((8 : Int32) &&& 31)) i = if 8 + i < 32 then bt x (8 + i) else bt x 31 := b_sshr 8 (by omega) x hi
theorem nx_and (a b : Nat) : nI a &&& nI b = nI (a &&& b) := by
  apply Int32.toBitVec_inj.1
  show BitVec.ofNat 32 a &&& BitVec.ofNat 32 b = BitVec.ofNat 32 (a &&& b)
  apply BitVec.eq_of_getLsbD_eq
  intro i hi
  simp [hi]
theorem nI_of32 (x : Int32) : ∃ n, n < 2 ^ 32 ∧ x = nI n := ⟨x.toBitVec.toNat, x.toBitVec.isLt, by
  apply Int32.toBitVec_inj.1
  show x.toBitVec = BitVec.ofNat 32 x.toBitVec.toNat
  simp⟩
theorem and2 {a b m M : Nat} (ha : a < 256) (hm : m < 256) : (256 * b + a) &&& (256 * M + m) = 256 * (b &&& M) + (a &&& m) := by
  apply Nat.eq_of_testBit_eq
  intro j
  have h1 := Nat.testBit_two_pow_mul_add b (i := 8) (b := a) ha j
  have h2 := Nat.testBit_two_pow_mul_add M (i := 8) (b := m) hm j
  have h3 := Nat.testBit_two_pow_mul_add (b &&& M) (i := 8) (b := a &&& m) (Nat.lt_of_le_of_lt Nat.and_le_left ha) j
  rw [Nat.testBit_and, show 256 = 2 ^ 8 from rfl, h1, h2, h3]
  by_cases h : j < 8
  · simp [h]
  · simp [h]
theorem st1a : ∀ a, a < 256 → (128 + a / 2) &&& 85 = (a / 2) &&& 85 := by decide +kernel
theorem st1 {a b M : Nat} (ha : a < 256) : (256 * b + a) - (((256 * b + a) / 2) &&& (256 * M + 85)) = 256 * (b - ((b / 2) &&& M)) + (a - ((a / 2) &&& 85)) := by
  have e : (256 * b + a) / 2 = 256 * (b / 2) + (128 * (b % 2) + a / 2) := by omega
  have hx : (b / 2) &&& M ≤ b := Nat.le_trans Nat.and_le_left (Nat.div_le_self b 2)
  have hy : (a / 2) &&& 85 ≤ a := Nat.le_trans Nat.and_le_left (Nat.div_le_self a 2)
  rw [e, and2 (by omega) (by omega)]
  have e2 : (128 * (b % 2) + a / 2) &&& 85 = (a / 2) &&& 85 := by
    rcases Nat.mod_two_eq_zero_or_one b with h | h
    · rw [h, Nat.mul_zero, Nat.zero_add]
    · rw [h, Nat.mul_one]; exact st1a a ha
  rw [e2]
  omega
theorem st2a : ∀ a, a < 256 → ((64 + a / 4) &&& 51 = (a / 4) &&& 51 ∧ (128 + a / 4) &&& 51 = (a / 4) &&& 51) ∧ (192 + a / 4) &&& 51 = (a / 4) &&& 51 := by decide +kernel
theorem st2 {a b M : Nat} (ha : a < 256) : ((256 * b + a) &&& (256 * M + 51)) + (((256 * b + a) / 4) &&& (256 * M + 51)) = 256 * ((b &&& M) + ((b / 4) &&& M)) + ((a &&& 51) + ((a / 4) &&& 51)) := by
  have e : (256 * b + a) / 4 = 256 * (b / 4) + (64 * (b % 4) + a / 4) := by omega
  rw [e, and2 ha (by omega), and2 (by omega) (by omega)]
  have e2 : (64 * (b % 4) + a / 4) &&& 51 = (a / 4) &&& 51 := by
    obtain ⟨⟨h1, h2⟩, h3⟩ := st2a a ha
    rcases (show b % 4 = 0 ∨ b % 4 = 1 ∨ b % 4 = 2 ∨ b % 4 = 3 by omega) with h | h | h | h
    · rw [h, Nat.mul_zero, Nat.zero_add]
    · rw [h]; exact h1
    · rw [h]; exact h2
    · rw [h]; exact h3
  rw [e2]
  omega
theorem and15 (x : Nat) : x &&& 15 = x % 16 := Nat.and_two_pow_sub_one_eq_mod x 4
theorem st3 {a b M : Nat} (ha : a ≤ 68) (hb : b % 16 ≤ 4) : ((256 * b + a) + (256 * b + a) / 16) &&& (256 * M + 15) = 256 * ((b + b / 16) &&& M) + ((a + a / 16) &&& 15) := by
  have e : (256 * b + a) + (256 * b + a) / 16 = 256 * (b + b / 16) + (a + a / 16 + 16 * (b % 16)) := by omega
  rw [e, and2 (by omega) (by omega), and15, and15]
  omega
def g1 (a : Nat) : Nat := a - ((a / 2) &&& 85)
def g2 (a : Nat) : Nat := (a &&& 51) + ((a / 4) &&& 51)
def g3 (a : Nat) : Nat := (a + a / 16) &&& 15
def cntN (n m : Nat) : Nat := it (fun k s => s + n / 2 ^ k % 2) 0 m
theorem g_all : ∀ a, a < 256 → g1 a < 256 ∧ (g2 (g1 a) ≤ 68 ∧ g2 (g1 a) % 16 ≤ 4) ∧ g3 (g2 (g1 a)) = cntN a 8 := by decide +kernel
theorem cntN_le (n : Nat) : ∀ m, cntN n m ≤ m
  | 0 => Nat.le_refl 0
  | m + 1 => by
    have h := cntN_le n m
    have e : cntN n (m + 1) = cntN n m + n / 2 ^ m % 2 := rfl
    rw [e]
    have := Nat.mod_lt (n / 2 ^ m) (show 0 < 2 by omega)
    omega
/-- the JDK's count of bits, over Nat -/
def bcN (n : Nat) : Nat :=
  let y1 := n - ((n / 2) &&& 1431655765)
  let y2 := (y1 &&& 858993459) + ((y1 / 4) &&& 858993459)
  let y3 := (y2 + y2 / 16) &&& 252645135
  let y4 := y3 + y3 / 256
  let y5 := y4 + y4 / 65536
  y5 &&& 63
theorem bcN_bytes {a0 a1 a2 a3 : Nat} (h0 : a0 < 256) (h1 : a1 < 256) (h2 : a2 < 256) (h3 : a3 < 256) : bcN (256 * (256 * (256 * a3 + a2) + a1) + a0) = cntN a0 8 + cntN a1 8 + cntN a2 8 + cntN a3 8 := by
  obtain ⟨u0, ⟨v0, w0⟩, x0⟩ := g_all a0 h0
  obtain ⟨u1, ⟨v1, w1⟩, x1⟩ := g_all a1 h1
  obtain ⟨u2, ⟨v2, w2⟩, x2⟩ := g_all a2 h2
  obtain ⟨u3, ⟨v3, w3⟩, x3⟩ := g_all a3 h3
  have l0 := cntN_le a0 8
  have l1 := cntN_le a1 8
  have l2 := cntN_le a2 8
  have l3 := cntN_le a3 8
  have e1 : ∀ n, n = 256 * (256 * (256 * a3 + a2) + a1) + a0 → n - ((n / 2) &&& 1431655765) = 256 * (256 * (256 * g1 a3 + g1 a2) + g1 a1) + g1 a0 := by
    intro n hn
    subst hn
    have s0 := st1 (b := 256 * (256 * a3 + a2) + a1) (M := 5592405) h0
    have s1 := st1 (b := 256 * a3 + a2) (M := 21845) h1
    have s2 := st1 (b := a3) (M := 85) h2
    unfold g1
    rw [← s2, ← s1, ← s0]
  have e2 : ∀ y, y = 256 * (256 * (256 * g1 a3 + g1 a2) + g1 a1) + g1 a0 → (y &&& 858993459) + ((y / 4) &&& 858993459) = 256 * (256 * (256 * g2 (g1 a3) + g2 (g1 a2)) + g2 (g1 a1)) + g2 (g1 a0) := by
    intro y hy
    subst hy
    have s0 := st2 (b := 256 * (256 * g1 a3 + g1 a2) + g1 a1) (M := 3355443) u0
    have s1 := st2 (b := 256 * g1 a3 + g1 a2) (M := 13107) u1
    have s2 := st2 (b := g1 a3) (M := 51) u2
    unfold g2
    rw [← s2, ← s1, ← s0]
  have e3 : ∀ y, y = 256 * (256 * (256 * g2 (g1 a3) + g2 (g1 a2)) + g2 (g1 a1)) + g2 (g1 a0) → (y + y / 16) &&& 252645135 = 256 * (256 * (256 * g3 (g2 (g1 a3)) + g3 (g2 (g1 a2))) + g3 (g2 (g1 a1))) + g3 (g2 (g1 a0)) := by
    intro y hy
    subst hy
    have s0 := st3 (b := 256 * (256 * g2 (g1 a3) + g2 (g1 a2)) + g2 (g1 a1)) (M := 986895) v0 (by omega)
    have s1 := st3 (b := 256 * g2 (g1 a3) + g2 (g1 a2)) (M := 3855) v1 (by omega)
    have s2 := st3 (b := g2 (g1 a3)) (M := 15) v2 w3
    unfold g3
    rw [← s2, ← s1, ← s0]
  unfold bcN
  simp only []
  rw [e1 _ rfl, e2 _ rfl, e3 _ rfl, x0, x1, x2, x3, show (63 : Nat) = 2 ^ 6 - 1 from rfl, Nat.and_two_pow_sub_one_eq_mod]
  generalize cntN a0 8 = c0 at *
  generalize cntN a1 8 = c1 at *
  generalize cntN a2 8 = c2 at *
  generalize cntN a3 8 = c3 at *
  clear u0 v0 w0 x0 u1 v1 w1 x1 u2 v2 w2 x2 u3 v3 w3 x3 e1 e2 e3
  have q1 : (256 * (256 * (256 * c3 + c2) + c1) + c0) / 256 = 256 * (256 * c3 + c2) + c1 := by omega
  rw [q1]
  have q2 : (256 * (256 * (256 * c3 + c2) + c1) + c0 + (256 * (256 * c3 + c2) + c1)) / 65536 = 256 * c3 + (c2 + c3) := by omega
  rw [q2]
  omega
theorem cntN_split {a : Nat} (ha : a < 256) (b : Nat) : ∀ m, cntN (256 * b + a) (8 + m) = cntN a 8 + cntN b m
  | 0 => by
    show cntN (256 * b + a) 8 = cntN a 8 + 0
    rw [Nat.add_zero]
    unfold cntN
    apply it_congr
    intro i x hi
    have : (256 * b + a) / 2 ^ i % 2 = a / 2 ^ i % 2 := by
      rcases (show i = 0 ∨ i = 1 ∨ i = 2 ∨ i = 3 ∨ i = 4 ∨ i = 5 ∨ i = 6 ∨ i = 7 by omega) with rfl | rfl | rfl | rfl | rfl | rfl | rfl | rfl <;> simp only [Nat.reducePow] <;> omega
    rw [this]
  | m + 1 => by
    have ih := cntN_split ha b m
    have e1 : cntN (256 * b + a) (8 + (m + 1)) = cntN (256 * b + a) (8 + m) + (256 * b + a) / 2 ^ (8 + m) % 2 := rfl
    have e2 : cntN b (m + 1) = cntN b m + b / 2 ^ m % 2 := rfl
    rw [e1, e2, ih, Nat.pow_add, ← Nat.div_div_eq_div_mul, show (256 * b + a) / 2 ^ 8 = b by omega]
    omega
theorem bcN_cnt {n : Nat} (hn : n < 2 ^ 32) : bcN n = cntN n 32 := by
  have e : n = 256 * (256 * (256 * (n / 16777216) + n / 65536 % 256) + n / 256 % 256) + n % 256 := by omega
  have h3 : n / 16777216 < 256 := by omega
  rw [e, bcN_bytes (by omega) (by omega) (by omega) h3]
  have s0 := cntN_split (a := n % 256) (by omega) (256 * (256 * (n / 16777216) + n / 65536 % 256) + n / 256 % 256) 24
  have s1 := cntN_split (a := n / 256 % 256) (by omega) (256 * (n / 16777216) + n / 65536 % 256) 16
  have s2 := cntN_split (a := n / 65536 % 256) (by omega) (n / 16777216) 8
  rw [show (32 : Nat) = 8 + 24 from rfl, s0, show (24 : Nat) = 8 + 16 from rfl, s1, show (16 : Nat) = 8 + 8 from rfl, s2]
  omega
theorem cntN_high {n a : Nat} (hn : n < 2 ^ a) : ∀ m, cntN n (a + m) = cntN n a
  | 0 => rfl
  | m + 1 => by
    have e1 : cntN n (a + (m + 1)) = cntN n (a + m) + n / 2 ^ (a + m) % 2 := rfl
    have : n / 2 ^ (a + m) = 0 := Nat.div_eq_of_lt (Nat.lt_of_lt_of_le hn (Nat.pow_le_pow_right (by omega) (by omega)))
    rw [e1, cntN_high hn m, this, Nat.zero_mod, Nat.add_zero]
/-- the count of bits as the JDK does it -/
theorem c_bitCount {n : Nat} (hn : n < 2 ^ 31) (S : aS) (G : aG) (Q : aQ) : aX mJ6_bitCount_0f7a4 0 [.int (nI n)] [] S G Q ↔ Q (some (.int (nI (cntN n 32)))) S G := by
  have l1 : n - (n / 2 &&& 1431655765) < 2 ^ 31 := by omega
  have ll : ∀ x, (x &&& 858993459) ≤ 858993459 := fun x => Nat.and_le_right
  have l2 : ∀ y, (y &&& 858993459) + (y / 4 &&& 858993459) < 2 ^ 31 := fun y => by have h1 := ll y; have h2 := ll (y / 4); omega
  have l3 : ∀ y, (y &&& 252645135) ≤ 252645135 := fun x => Nat.and_le_right
  have u1 : ∀ m, m < 2 ^ 31 → (((nI m).toUInt32 >>> ((1 : Int32).toUInt32 &&& Int32.toUInt32 31)).toInt32) = nI (m / 2) := fun m hm => pk_ushrN (by omega) 1 1 (by decide)
  have u2 : ∀ m, m < 2 ^ 31 → (((nI m).toUInt32 >>> ((2 : Int32).toUInt32 &&& Int32.toUInt32 31)).toInt32) = nI (m / 4) := fun m hm => pk_ushrN (by omega) 2 2 (by decide)
  have u4 : ∀ m, m < 2 ^ 31 → (((nI m).toUInt32 >>> ((4 : Int32).toUInt32 &&& Int32.toUInt32 31)).toInt32) = nI (m / 16) := fun m hm => pk_ushrN (by omega) 4 4 (by decide)
  have u8 : ∀ m, m < 2 ^ 31 → (((nI m).toUInt32 >>> ((8 : Int32).toUInt32 &&& Int32.toUInt32 31)).toInt32) = nI (m / 256) := fun m hm => pk_ushrN (by omega) 8 8 (by decide)
  have u16 : ∀ m, m < 2 ^ 31 → (((nI m).toUInt32 >>> ((16 : Int32).toUInt32 &&& Int32.toUInt32 31)).toInt32) = nI (m / 65536) := fun m hm => pk_ushrN (by omega) 16 16 (by decide)
  have m1 : ∀ m, nI m &&& (1431655765 : Int32) = nI (m &&& 1431655765) := fun m => nx_and m 1431655765
  have m2 : ∀ m, nI m &&& (858993459 : Int32) = nI (m &&& 858993459) := fun m => nx_and m 858993459
  have m3 : ∀ m, nI m &&& (252645135 : Int32) = nI (m &&& 252645135) := fun m => nx_and m 252645135
  have m4 : ∀ m, nI m &&& (63 : Int32) = nI (m &&& 63) := fun m => nx_and m 63
  have sb : nI n - nI (n / 2 &&& 1431655765) = nI (n - (n / 2 &&& 1431655765)) := pk_sub (Nat.le_trans Nat.and_le_left (Nat.div_le_self n 2))
  rw [x_J6_bitCount_0f7a4_0, ← bcN_cnt (by omega)]
  unfold bcN
  simp only [u1 n hn, m1, sb, m2, u2 _ l1, nI_add, u4 _ (l2 _), m3, u8 _ (Nat.lt_of_le_of_lt (l3 _) (by decide))]
  have l4 : ∀ z, (z &&& 252645135) + (z &&& 252645135) / 256 < 2 ^ 31 := fun z => by have := l3 z; omega
  simp only [u16 _ (l4 _), nI_add, m4]
theorem many_cnt {n : Nat} (hn : n < 2 ^ 31) : manyF (nI n) = nI (cntN n 25) := by
  have key : ∀ m, m ≤ 25 → it (fun k s => s + ((nI n >>> (nI k &&& 31)) &&& 1)) 0 m = nI (cntN n m) := by
    intro m
    induction m with
    | zero => intro _; rfl
    | succ m ih =>
      intro hm
      have e2 : cntN n (m + 1) = cntN n m + n / 2 ^ m % 2 := rfl
      rw [it_succ, ih (by omega), e2, pk_shrN hn (nI m &&& 31) m (s_l m (by omega)), show (1 : Int32) = nI 1 from rfl, nx_and, Nat.and_one_is_mod, nI_add]
  exact key 25 (Nat.le_refl 25)
theorem cnt_many {n : Nat} (hn : n < 2 ^ 25) : nI (cntN n 32) = manyF (nI n) := by
  rw [many_cnt (by omega), show (32 : Nat) = 25 + 7 from rfl, cntN_high hn]
