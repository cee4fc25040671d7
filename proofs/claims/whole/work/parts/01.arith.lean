/-! whole numbers as ints and longs -/
def iI (v : Int) : Int32 := Int32.ofInt v
def lI (v : Int) : Int64 := Int64.ofInt v
theorem iI_of (x : Int32) : x = iI x.toInt := (Int32.ofInt_toInt x).symm
theorem lI_of (x : Int64) : x = lI x.toInt := (Int64.ofInt_toInt x).symm
theorem iI_t {v : Int} (h1 : -2147483648 ≤ v := by omega) (h2 : v < 2147483648 := by omega) : (iI v).toInt = v := Int32.toInt_ofInt_of_le (by omega) (by omega)
theorem lI_t {v : Int} (h1 : -9223372036854775808 ≤ v := by omega) (h2 : v < 9223372036854775808 := by omega) : (lI v).toInt = v := Int64.toInt_ofInt_of_le (by omega) (by omega)
theorem iI_add (a b : Int) : iI a + iI b = iI (a + b) := (Int32.ofInt_add a b).symm
theorem iI_sub (a b : Int) : iI a - iI b = iI (a - b) := (Int32.ofInt_sub a b).symm
theorem iI_mul (a b : Int) : iI a * iI b = iI (a * b) := (Int32.ofInt_mul a b).symm
theorem lI_add (a b : Int) : lI a + lI b = lI (a + b) := (Int64.ofInt_add a b).symm
theorem lI_sub (a b : Int) : lI a - lI b = lI (a - b) := (Int64.ofInt_sub a b).symm
theorem lI_mul (a b : Int) : lI a * lI b = lI (a * b) := (Int64.ofInt_mul a b).symm
theorem iI_nat (n : Nat) : iI (n : Int) = nI n := Int32.ofInt_eq_ofNat
theorem lI_nat (n : Nat) : lI (n : Int) = lN n := Int64.ofInt_eq_ofNat
theorem lI_i (v : Int) : (lI v).toInt32 = iI v := Int64.toInt32_ofInt
theorem iI_l {v : Int} (h1 : -2147483648 ≤ v := by omega) (h2 : v < 2147483648 := by omega) : (iI v).toInt64 = lI v := Int64.toInt_inj.mp (by rw [Int32.toInt_toInt64, iI_t h1 h2, lI_t (by omega) (by omega)])
theorem iI_lt {a b : Int} (a1 : -2147483648 ≤ a := by omega) (a2 : a < 2147483648 := by omega) (b1 : -2147483648 ≤ b := by omega) (b2 : b < 2147483648 := by omega) : iI a < iI b ↔ a < b := by rw [Int32.lt_iff_toInt_lt, iI_t a1 a2, iI_t b1 b2]
theorem iI_le {a b : Int} (a1 : -2147483648 ≤ a := by omega) (a2 : a < 2147483648 := by omega) (b1 : -2147483648 ≤ b := by omega) (b2 : b < 2147483648 := by omega) : iI a ≤ iI b ↔ a ≤ b := by rw [Int32.le_iff_toInt_le, iI_t a1 a2, iI_t b1 b2]
theorem iI_eq {a b : Int} (a1 : -2147483648 ≤ a := by omega) (a2 : a < 2147483648 := by omega) (b1 : -2147483648 ≤ b := by omega) (b2 : b < 2147483648 := by omega) : iI a = iI b ↔ a = b := by rw [← Int32.toInt_inj, iI_t a1 a2, iI_t b1 b2]
theorem lI_lt {a b : Int} (a1 : -9223372036854775808 ≤ a := by omega) (a2 : a < 9223372036854775808 := by omega) (b1 : -9223372036854775808 ≤ b := by omega) (b2 : b < 9223372036854775808 := by omega) : lI a < lI b ↔ a < b := by rw [Int64.lt_iff_toInt_lt, lI_t a1 a2, lI_t b1 b2]
theorem lI_le {a b : Int} (a1 : -9223372036854775808 ≤ a := by omega) (a2 : a < 9223372036854775808 := by omega) (b1 : -9223372036854775808 ≤ b := by omega) (b2 : b < 9223372036854775808 := by omega) : lI a ≤ lI b ↔ a ≤ b := by rw [Int64.le_iff_toInt_le, lI_t a1 a2, lI_t b1 b2]
theorem lI_eq {a b : Int} (a1 : -9223372036854775808 ≤ a := by omega) (a2 : a < 9223372036854775808 := by omega) (b1 : -9223372036854775808 ≤ b := by omega) (b2 : b < 9223372036854775808 := by omega) : lI a = lI b ↔ a = b := by rw [← Int64.toInt_inj, lI_t a1 a2, lI_t b1 b2]
theorem iI_in {v : Int} {N : Nat} (h0 : 0 ≤ v := by omega) (h1 : v < N := by omega) (hN : N < 2147483648 := by omega) : vp_in (iI v) N := vp_in_iff.mpr (by rw [iI_t (by omega) (by omega)]; exact ⟨h0, h1⟩)
theorem iI_cl {v : Int} (h0 : 0 ≤ v := by omega) (h1 : v < 2147483648 := by omega) : (iI v).toNatClampNeg = v.toNat := by
  show (iI v).toInt.toNat = _
  rw [iI_t (by omega) h1]
theorem iI_rng (x : Int32) : -2147483648 ≤ x.toInt ∧ x.toInt < 2147483648 := ⟨by have := Int32.le_toInt x; omega, by have := Int32.toInt_lt x; omega⟩
/-! roads -/
theorem br_lt {x y : Int32} {A B : Prop} (a b : Int) (f : a < b → A) (g : b ≤ a → B) (hx : x = iI a := by first | rfl | decide) (hy : y = iI b := by first | rfl | decide) (a1 : -2147483648 ≤ a := by omega) (a2 : a < 2147483648 := by omega) (b1 : -2147483648 ≤ b := by omega) (b2 : b < 2147483648 := by omega) : (x < y → A) ∧ (¬ x < y → B) := by
  subst hx hy
  rw [iI_lt a1 a2 b1 b2]
  exact ⟨f, fun h => g (Int.not_lt.mp h)⟩
theorem br_le {x y : Int32} {A B : Prop} (a b : Int) (f : a ≤ b → A) (g : b < a → B) (hx : x = iI a := by first | rfl | decide) (hy : y = iI b := by first | rfl | decide) (a1 : -2147483648 ≤ a := by omega) (a2 : a < 2147483648 := by omega) (b1 : -2147483648 ≤ b := by omega) (b2 : b < 2147483648 := by omega) : (x ≤ y → A) ∧ (¬ x ≤ y → B) := by
  subst hx hy
  rw [iI_le a1 a2 b1 b2]
  exact ⟨f, fun h => g (Int.not_le.mp h)⟩
theorem br_eq {x y : Int32} {A B : Prop} (a b : Int) (f : a = b → A) (g : a ≠ b → B) (hx : x = iI a := by first | rfl | decide) (hy : y = iI b := by first | rfl | decide) (a1 : -2147483648 ≤ a := by omega) (a2 : a < 2147483648 := by omega) (b1 : -2147483648 ≤ b := by omega) (b2 : b < 2147483648 := by omega) : (x = y → A) ∧ (¬ x = y → B) := by
  subst hx hy
  rw [iI_eq a1 a2 b1 b2]
  exact ⟨f, g⟩
theorem br_ne {x y : Int32} {A B : Prop} (a b : Int) (f : a ≠ b → A) (g : a = b → B) (hx : x = iI a := by first | rfl | decide) (hy : y = iI b := by first | rfl | decide) (a1 : -2147483648 ≤ a := by omega) (a2 : a < 2147483648 := by omega) (b1 : -2147483648 ≤ b := by omega) (b2 : b < 2147483648 := by omega) : (¬ x = y → A) ∧ (x = y → B) := by
  subst hx hy
  rw [iI_eq a1 a2 b1 b2]
  exact ⟨f, g⟩
theorem lc_lt {x y : Int64} {A B : Prop} (a b : Int) (f : a < b → A) (g : b ≤ a → B) (hx : x = lI a := by first | rfl | decide) (hy : y = lI b := by first | rfl | decide) (a1 : -9223372036854775808 ≤ a := by omega) (a2 : a < 9223372036854775808 := by omega) (b1 : -9223372036854775808 ≤ b := by omega) (b2 : b < 9223372036854775808 := by omega) : ∀ z : Int32, z = lg_cmp x y → (z < 0 → A) ∧ (¬ z < 0 → B) := by
  intro z hz
  subst hz hx hy
  rw [lg_cmp_lt, lI_lt a1 a2 b1 b2]
  exact ⟨f, fun h => g (Int.not_lt.mp h)⟩
theorem lc_le {x y : Int64} {A B : Prop} (a b : Int) (f : a ≤ b → A) (g : b < a → B) (hx : x = lI a := by first | rfl | decide) (hy : y = lI b := by first | rfl | decide) (a1 : -9223372036854775808 ≤ a := by omega) (a2 : a < 9223372036854775808 := by omega) (b1 : -9223372036854775808 ≤ b := by omega) (b2 : b < 9223372036854775808 := by omega) : ∀ z : Int32, z = lg_cmp x y → (z ≤ 0 → A) ∧ (¬ z ≤ 0 → B) := by
  intro z hz
  subst hz hx hy
  rw [lg_cmp_le, lI_le a1 a2 b1 b2]
  exact ⟨f, fun h => g (Int.not_le.mp h)⟩
theorem lc_ge {x y : Int64} {A B : Prop} (a b : Int) (f : b ≤ a → A) (g : a < b → B) (hx : x = lI a := by first | rfl | decide) (hy : y = lI b := by first | rfl | decide) (a1 : -9223372036854775808 ≤ a := by omega) (a2 : a < 9223372036854775808 := by omega) (b1 : -9223372036854775808 ≤ b := by omega) (b2 : b < 9223372036854775808 := by omega) : ∀ z : Int32, z = lg_cmp x y → (0 ≤ z → A) ∧ (¬ 0 ≤ z → B) := by
  intro z hz
  subst hz hx hy
  rw [lg_cmp_ge, lI_le b1 b2 a1 a2]
  exact ⟨f, fun h => g (Int.not_le.mp h)⟩
theorem lc_eq {x y : Int64} {A B : Prop} (a b : Int) (f : a = b → A) (g : a ≠ b → B) (hx : x = lI a := by first | rfl | decide) (hy : y = lI b := by first | rfl | decide) (a1 : -9223372036854775808 ≤ a := by omega) (a2 : a < 9223372036854775808 := by omega) (b1 : -9223372036854775808 ≤ b := by omega) (b2 : b < 9223372036854775808 := by omega) : ∀ z : Int32, z = lg_cmp x y → (z = 0 → A) ∧ (¬ z = 0 → B) := by
  intro z hz
  subst hz hx hy
  rw [lg_cmp_eq, lI_eq a1 a2 b1 b2]
  exact ⟨f, g⟩
theorem lc_ne {x y : Int64} {A B : Prop} (a b : Int) (f : a ≠ b → A) (g : a = b → B) (hx : x = lI a := by first | rfl | decide) (hy : y = lI b := by first | rfl | decide) (a1 : -9223372036854775808 ≤ a := by omega) (a2 : a < 9223372036854775808 := by omega) (b1 : -9223372036854775808 ≤ b := by omega) (b2 : b < 9223372036854775808 := by omega) : ∀ z : Int32, z = lg_cmp x y → (¬ z = 0 → A) ∧ (z = 0 → B) := by
  intro z hz
  subst hz hx hy
  rw [lg_cmp_eq, lI_eq a1 a2 b1 b2]
  exact ⟨f, g⟩
/-! masks and shifts -/
theorem iI_tn (v : Int) : ((iI v).toBitVec.toNat : Int) = v % 4294967296 := by
  show ((BitVec.ofInt 32 v).toNat : Int) = _
  rw [BitVec.toNat_ofInt]
  omega
theorem iI_mask (v : Int) {m : Int32} (k p : Nat) (hp : 2 ^ k = p) (hm : m.toBitVec.toNat = 2 ^ k - 1) (hd : (p : Int) ∣ 4294967296) (h0 : 0 < p) : iI v &&& m = iI (v % p) := by
  subst hp
  rw [pk_and _ k hm, ← iI_nat]
  congr 1
  rw [Int.natCast_emod, iI_tn, Int.emod_emod_of_dvd _ hd]
theorem iI_255 (v : Int) : iI v &&& 255 = iI (v % 256) := iI_mask v 8 256 (by decide) (by decide) (by decide) (by decide)
theorem iI_127 (v : Int) : iI v &&& 127 = iI (v % 128) := iI_mask v 7 128 (by decide) (by decide) (by decide) (by decide)
theorem iI_15 (v : Int) : iI v &&& 15 = iI (v % 16) := iI_mask v 4 16 (by decide) (by decide) (by decide) (by decide)
theorem by_all : ∀ n, n < 128 → (nI n ||| 128 = nI (n + 128)) ∧ ((nI n &&& 64 = 0) ↔ n < 64) := by decide +kernel
theorem iI_or {v : Int} (h0 : 0 ≤ v := by omega) (h1 : v < 128 := by omega) : iI v ||| 128 = iI (v + 128) := by
  obtain ⟨n, rfl⟩ := Int.eq_ofNat_of_zero_le h0
  have h := (by_all n (by omega)).1
  rw [iI_nat, h, ← iI_nat]
  rfl
theorem iI_64 {v : Int} (h0 : 0 ≤ v := by omega) (h1 : v < 128 := by omega) : iI v &&& 64 = 0 ↔ v < 64 := by
  obtain ⟨n, rfl⟩ := Int.eq_ofNat_of_zero_le h0
  rw [iI_nat, (by_all n (by omega)).2]
  omega
theorem iI_sh7 {v : Int} (h1 : -2147483648 ≤ v := by omega) (h2 : v < 2147483648 := by omega) : iI v >>> ((7 : Int32) &&& 31) = iI (v / 128) := by
  apply Int32.toInt_inj.mp
  rw [pk_shr _ _ 7 (by decide), iI_t h1 h2, iI_t (by omega) (by omega), Int.shiftRight_eq_div_pow]
  rfl
def p8 : Nat → Int
  | 0 => 1
  | 1 => 256
  | 2 => 65536
  | _ => 16777216
def p7 : Nat → Int
  | 0 => 1
  | 1 => 128
  | 2 => 16384
  | 3 => 2097152
  | _ => 268435456
theorem iI_sh8 {v : Int} (i : Nat) (hi : i < 4) (h1 : -2147483648 ≤ v := by omega) (h2 : v < 2147483648 := by omega) : iI v >>> (iI (8 * (i : Int)) &&& 31) = iI (v / p8 i) := by
  rcases (show i = 0 ∨ i = 1 ∨ i = 2 ∨ i = 3 by omega) with rfl | rfl | rfl | rfl
  · apply Int32.toInt_inj.mp
    rw [pk_shr _ _ 0 (by decide), iI_t h1 h2, show p8 0 = 1 from rfl, iI_t (by omega) (by omega), Int.shiftRight_eq_div_pow]
    rfl
  · apply Int32.toInt_inj.mp
    rw [pk_shr _ _ 8 (by decide), iI_t h1 h2, show p8 1 = 256 from rfl, iI_t (by omega) (by omega), Int.shiftRight_eq_div_pow]
    rfl
  · apply Int32.toInt_inj.mp
    rw [pk_shr _ _ 16 (by decide), iI_t h1 h2, show p8 2 = 65536 from rfl, iI_t (by omega) (by omega), Int.shiftRight_eq_div_pow]
    rfl
  · apply Int32.toInt_inj.mp
    rw [pk_shr _ _ 24 (by decide), iI_t h1 h2, show p8 3 = 16777216 from rfl, iI_t (by omega) (by omega), Int.shiftRight_eq_div_pow]
    rfl
theorem lI_shr (x D : Int64) (k : Nat) (hD : (D.toBitVec.smod 64).toNat = k) : (x >>> D).toInt = x.toInt >>> k := by
  rw [← hD]
  exact BitVec.toInt_sshiftRight ..
theorem lI_sh7 {v : Int} (h1 : -9223372036854775808 ≤ v := by omega) (h2 : v < 9223372036854775808 := by omega) : lI v >>> ((7 : Int32).toInt64 &&& 63) = lI (v / 128) := by
  apply Int64.toInt_inj.mp
  rw [lI_shr _ _ 7 (by decide), lI_t h1 h2, lI_t (by omega) (by omega), Int.shiftRight_eq_div_pow]
  rfl
theorem lI_sh8 {v : Int} (i : Nat) (hi : i < 4) (h1 : -2147483648 ≤ v := by omega) (h2 : v < 2147483648 := by omega) : lI v >>> ((iI (8 * (i : Int))).toInt64 &&& 63) = lI (v / p8 i) := by
  rcases (show i = 0 ∨ i = 1 ∨ i = 2 ∨ i = 3 by omega) with rfl | rfl | rfl | rfl
  · apply Int64.toInt_inj.mp
    rw [lI_shr _ _ 0 (by decide), lI_t (by omega) (by omega), show p8 0 = 1 from rfl, lI_t (by omega) (by omega), Int.shiftRight_eq_div_pow]
    rfl
  · apply Int64.toInt_inj.mp
    rw [lI_shr _ _ 8 (by decide), lI_t (by omega) (by omega), show p8 1 = 256 from rfl, lI_t (by omega) (by omega), Int.shiftRight_eq_div_pow]
    rfl
  · apply Int64.toInt_inj.mp
    rw [lI_shr _ _ 16 (by decide), lI_t (by omega) (by omega), show p8 2 = 65536 from rfl, lI_t (by omega) (by omega), Int.shiftRight_eq_div_pow]
    rfl
  · apply Int64.toInt_inj.mp
    rw [lI_shr _ _ 24 (by decide), lI_t (by omega) (by omega), show p8 3 = 16777216 from rfl, lI_t (by omega) (by omega), Int.shiftRight_eq_div_pow]
    rfl
theorem lI_tn (v : Int) : ((lI v).toBitVec.toNat : Int) = v % 18446744073709551616 := by
  show ((BitVec.ofInt 64 v).toNat : Int) = _
  rw [BitVec.toNat_ofInt]
  omega
theorem lI_mask (v : Int) {m : Int64} (k p : Nat) (hp : 2 ^ k = p) (hm : m.toBitVec.toNat = 2 ^ k - 1) (hd : (p : Int) ∣ 18446744073709551616) : lI v &&& m = lI (v % p) := by
  subst hp
  have h : lI v &&& m = lN ((lI v).toBitVec.toNat % 2 ^ k) := by
    apply Int64.toBitVec_inj.mp
    apply BitVec.eq_of_toNat_eq
    rw [Int64.toBitVec_and, BitVec.toNat_and, hm, Nat.and_two_pow_sub_one_eq_mod]
    show _ = (BitVec.ofNat 64 _).toNat
    rw [BitVec.toNat_ofNat]
    exact (Nat.mod_eq_of_lt (Nat.lt_of_le_of_lt (Nat.mod_le _ _) (lI v).toBitVec.isLt)).symm
  rw [h, ← lI_nat]
  congr 1
  rw [Int.natCast_emod, lI_tn, Int.emod_emod_of_dvd _ hd]
theorem lI_255 (v : Int) : lI v &&& 255 = lI (v % 256) := lI_mask v 8 256 (by decide) (by decide) (by decide)
theorem lI_127 (v : Int) : lI v &&& 127 = lI (v % 128) := lI_mask v 7 128 (by decide) (by decide) (by decide)
theorem ly_all : ∀ n, n < 128 → ((128 : Int64) ||| lN n = lN (n + 128)) := by decide +kernel
theorem lI_128 {v : Int} (h0 : 0 ≤ v := by omega) (h1 : v < 128 := by omega) : (128 : Int64) ||| lI v = lI (v + 128) := by
  obtain ⟨n, rfl⟩ := Int.eq_ofNat_of_zero_le h0
  have h := ly_all n (by omega)
  rw [lI_nat, h, ← lI_nat]
  rfl
theorem ga_tn {n : Nat} (h : n < 2 ^ 64) : (UInt64.ofNat n).toNat = n := Nat.mod_eq_of_lt h
theorem ga_or {k p a b : Nat} (hp : 2 ^ k = p) (ha : a < p) (h : b * p + a < 2 ^ 64) : lN a ||| lN (b * p) = lN (a + b * p) := by
  subst hp
  have h1 : b * 2 ^ k ||| a = b * 2 ^ k + a := by rw [← Nat.shiftLeft_eq, Nat.shiftLeft_add_eq_or_of_lt ha]
  have h3 : UInt64.ofNat (b * 2 ^ k) ||| UInt64.ofNat a = UInt64.ofNat (b * 2 ^ k + a) := UInt64.toNat_inj.mp (by rw [UInt64.toNat_or, ga_tn (by omega), ga_tn (by omega), ga_tn h, h1])
  have h2 : lN (b * 2 ^ k) ||| lN a = lN (b * 2 ^ k + a) := congrArg UInt64.toInt64 h3
  rw [Int64.or_comm, h2, Nat.add_comm]
theorem ga_shl {a k p : Nat} {y : Int64} (hy : y.toBitVec.smod 64 = BitVec.ofNat 64 k) (hk : k < 64) (hp : 2 ^ k = p) (ha : a < 2 ^ 64) : lN a <<< y = lN (a * p) := by
  subst hp
  apply Int64.toBitVec_inj.mp
  rw [Int64.toBitVec_shiftLeft, hy]
  apply BitVec.eq_of_toNat_eq
  have hb : (lN a).toBitVec.toNat = a := Nat.mod_eq_of_lt ha
  have hk' : (BitVec.ofNat 64 k).toNat = k := Nat.mod_eq_of_lt (by omega)
  have h : ((lN a).toBitVec <<< BitVec.ofNat 64 k).toNat = (a * 2 ^ k) % 2 ^ 64 := by simp only [BitVec.shiftLeft_eq', BitVec.toNat_shiftLeft, hb, hk', Nat.shiftLeft_eq]
  exact h
theorem lI_or {a x : Int} {y : Int64} (k p : Nat) (hp : 2 ^ k = p) (hk : k < 64) (hp2 : p ≤ 1099511627776) (hy : y.toBitVec.smod 64 = BitVec.ofNat 64 k) (h0 : 0 ≤ a) (h1 : a < p) (x0 : 0 ≤ x) (x1 : x < 256) : lI a ||| (lI x <<< y) = lI (a + x * p) := by
  obtain ⟨n, rfl⟩ := Int.eq_ofNat_of_zero_le h0
  obtain ⟨m, rfl⟩ := Int.eq_ofNat_of_zero_le x0
  have hm : m * p ≤ 255 * 1099511627776 := Nat.mul_le_mul (by omega) hp2
  rw [lI_nat, lI_nat, ga_shl hy hk hp (by omega), ga_or hp (by omega) (by omega), ← lI_nat]
  congr 1
theorem lI_or7 {a x : Int} (g : Nat) (hg : g < 5) (h0 : 0 ≤ a) (h1 : a < p7 g) (x0 : 0 ≤ x) (x1 : x < 256) : lI a ||| (lI x <<< ((iI (7 * (g : Int))).toInt64 &&& 63)) = lI (a + x * p7 g) := by
  rcases (show g = 0 ∨ g = 1 ∨ g = 2 ∨ g = 3 ∨ g = 4 by omega) with rfl | rfl | rfl | rfl | rfl
  · exact lI_or 0 1 (by decide) (by decide) (by decide) (by decide) h0 h1 x0 x1
  · exact lI_or 7 128 (by decide) (by decide) (by decide) (by decide) h0 h1 x0 x1
  · exact lI_or 14 16384 (by decide) (by decide) (by decide) (by decide) h0 h1 x0 x1
  · exact lI_or 21 2097152 (by decide) (by decide) (by decide) (by decide) h0 h1 x0 x1
  · exact lI_or 28 268435456 (by decide) (by decide) (by decide) (by decide) h0 h1 x0 x1
theorem lI_or8 {a x : Int} (g : Nat) (hg : g < 4) (h0 : 0 ≤ a) (h1 : a < p8 g) (x0 : 0 ≤ x) (x1 : x < 256) : lI a ||| (lI x <<< ((iI (8 * (g : Int))).toInt64 &&& 63)) = lI (a + x * p8 g) := by
  rcases (show g = 0 ∨ g = 1 ∨ g = 2 ∨ g = 3 by omega) with rfl | rfl | rfl | rfl
  · exact lI_or 0 1 (by decide) (by decide) (by decide) (by decide) h0 h1 x0 x1
  · exact lI_or 8 256 (by decide) (by decide) (by decide) (by decide) h0 h1 x0 x1
  · exact lI_or 16 65536 (by decide) (by decide) (by decide) (by decide) h0 h1 x0 x1
  · exact lI_or 24 16777216 (by decide) (by decide) (by decide) (by decide) h0 h1 x0 x1
theorem lI_shl7 (g : Nat) (hg : g < 5) : (128 : Int64) <<< ((iI (7 * (g : Int))).toInt64 &&& 63) = lI (128 * p7 g) := by
  rcases (show g = 0 ∨ g = 1 ∨ g = 2 ∨ g = 3 ∨ g = 4 by omega) with rfl | rfl | rfl | rfl | rfl <;> decide
theorem lI_shl1 (g : Nat) (hg : g < 5) : (1 : Int64) <<< ((iI (7 * (g : Int) + 7)).toInt64 &&& 63) = lI (128 * p7 g) := by
  rcases (show g = 0 ∨ g = 1 ∨ g = 2 ∨ g = 3 ∨ g = 4 by omega) with rfl | rfl | rfl | rfl | rfl <;> decide
theorem iI_div {a b : Int} (a0 : 0 ≤ a := by omega) (a1 : a < 2147483648 := by omega) (b0 : 0 < b := by omega) (b1 : b < 2147483648 := by omega) : iI a / iI b = iI (a / b) := by
  obtain ⟨n, rfl⟩ := Int.eq_ofNat_of_zero_le a0
  obtain ⟨m, rfl⟩ := Int.eq_ofNat_of_zero_le (Int.le_of_lt b0)
  rw [iI_nat, iI_nat, pk_div (by omega) (by omega) (by omega), ← iI_nat, Int.natCast_ediv]
theorem iI_rem {a b : Int} (a0 : 0 ≤ a := by omega) (a1 : a < 2147483648 := by omega) (b0 : 0 < b := by omega) (b1 : b < 2147483648 := by omega) : iI a - iI a / iI b * iI b = iI (a % b) := by
  obtain ⟨n, rfl⟩ := Int.eq_ofNat_of_zero_le a0
  obtain ⟨m, rfl⟩ := Int.eq_ofNat_of_zero_le (Int.le_of_lt b0)
  rw [iI_nat, iI_nat, pk_rem (by omega) (by omega) (by omega), ← iI_nat, Int.natCast_emod]
/-! steps of a walk -/
theorem st_v {α : Sort _} {e : α} {P : α → Prop} (e' : α) (he : e = e') (h : P e') : ∀ x, x = e → P x := fun x hx => by rw [hx, he]; exact h
theorem ad {x y : Int32} (a b : Int) {c : Int} (hx : x = iI a := by first | rfl | decide) (hy : y = iI b := by first | rfl | decide) (h : a + b = c := by omega) : x + y = iI c := by rw [hx, hy, iI_add, h]
theorem sb {x y : Int32} (a b : Int) {c : Int} (hx : x = iI a := by first | rfl | decide) (hy : y = iI b := by first | rfl | decide) (h : a - b = c := by omega) : x - y = iI c := by rw [hx, hy, iI_sub, h]
theorem ml {x y : Int32} (a b : Int) {c : Int} (hx : x = iI a := by first | rfl | decide) (hy : y = iI b := by first | rfl | decide) (h : a * b = c := by omega) : x * y = iI c := by rw [hx, hy, iI_mul, h]
theorem lad {x y : Int64} (a b : Int) {c : Int} (hx : x = lI a := by first | rfl | decide) (hy : y = lI b := by first | rfl | decide) (h : a + b = c := by omega) : x + y = lI c := by rw [hx, hy, lI_add, h]
theorem lsb {x y : Int64} (a b : Int) {c : Int} (hx : x = lI a := by first | rfl | decide) (hy : y = lI b := by first | rfl | decide) (h : a - b = c := by omega) : x - y = lI c := by rw [hx, hy, lI_sub, h]
theorem lml {x y : Int64} (a b : Int) {c : Int} (hx : x = lI a := by first | rfl | decide) (hy : y = lI b := by first | rfl | decide) (h : a * b = c := by omega) : x * y = lI c := by rw [hx, hy, lI_mul, h]
theorem iN_cl {v : Int} (k : Nat) (h : v = k := by omega) (hk : k < 2147483648 := by omega) : (iI v).toNatClampNeg = k := by
  rw [iI_cl (by omega) (by omega), h]
  rfl
theorem st_ld {α : Type} {g : Nat → α} {v : Int} {P : α → Prop} (k N : Nat) (h : P (g k)) {i : Int32} (hi : i = iI v := by first | rfl | decide) (hv : v = k := by omega) (hk : k < N := by omega) (hN : N < 2147483648 := by decide) : vp_in i N ∧ (∀ x : α, x = g i.toNatClampNeg → P x) := by
  subst hi
  refine ⟨iI_in (by omega) (by omega) hN, fun x hx => ?_⟩
  rw [hx, iN_cl k hv (by omega)]
  exact h
theorem st_st {g : Nat → Int32} {v : Int} {w : Int32} {P : (Nat → Int32) → Prop} (k N : Nat) (h : P (upd g k w)) {i : Int32} (hi : i = iI v := by first | rfl | decide) (hv : v = k := by omega) (hk : k < N := by omega) (hN : N < 2147483648 := by decide) : vp_in i N ∧ (∀ g' : Nat → Int32, g' = upd g i.toNatClampNeg w → P g') := by
  subst hi
  refine ⟨iI_in (by omega) (by omega) hN, fun x hx => ?_⟩
  rw [hx, iN_cl k hv (by omega)]
  exact h
