/-! the class, method by method: what a method needs follows from what the document's machine does -/
def sK {α : Type} (r : Nat ⊕ α) (ok : α → Prop) (bad : Nat → Prop) : Prop := match r with
  | .inl c => bad c
  | .inr x => ok x
theorem sK_bind {α β : Type} {r : Nat ⊕ α} {f : α → Nat ⊕ β} {ok : β → Prop} {bad : Nat → Prop} : sK (sBind r f) ok bad ↔ sK r (fun x => sK (f x) ok bad) bad := by
  cases r <;> exact Iff.rfl
theorem sK_mono {α : Type} {r : Nat ⊕ α} {ok ok' : α → Prop} {bad bad' : Nat → Prop} (h : sK r ok bad) (h1 : ∀ x, r = .inr x → ok x → ok' x) (h2 : ∀ c, r = .inl c → bad c → bad' c) : sK r ok' bad' := by
  cases r with
  | inl c => exact h2 c rfl h
  | inr x => exact h1 x rfl h
/-- z bytes b lie in f -/
def bOk (b : Nat → Int) (z : Nat) (f : Nat → Int32) : Prop := z ≤ 600 ∧ ∀ i, i < z → f i = iI (b i) ∧ 0 ≤ b i ∧ b i < 256
theorem p_By_get {f : Nat → Int32} (t : Nat) {post : Int32 → Unit → Prop} (ht : t < 600) (h : post (f t) ()) : wp_By_get f (iI t) post := by
  unfold wp_By_get
  exact st_ld t 600 h
theorem p_append {n : Nat} {f : Nat → Int32} {x : Int32} (v : Int) {post : (Int32 × (Nat → Int32)) → Prop} {postX : Nat × (Int32 × (Nat → Int32)) → Prop} (hn : n ≤ 600) (h1 : n < 600 → post (iI ((n + 1 : Nat) : Int), upd f n (iI (v % 256)))) (h2 : n = 600 → postX (5, (iI n, f))) (hx : x = iI v := by first | rfl | decide) : wp_By_append (iI n) f x post postX := by
  subst hx
  unfold wp_By_append
  refine br_lt n 600 (fun h => ?_) (fun h => ?_)
  · refine st_v (iI (v % 256)) (iI_255 v) ?_
    refine st_st n 600 ?_
    exact st_v (iI ((n + 1 : Nat) : Int)) (ad n 1) (h1 (by omega))
  · exact h2 (by omega)
theorem p_Ro_get {g : Nat → Int32} (i w : Nat) {x y : Int32} {post : Int32 → Unit → Prop} (h : 7 * i + w < 630) (hp : post (g (7 * i + w)) ()) (hx : x = iI i := by first | rfl | decide) (hy : y = iI w := by first | rfl | decide) : wp_Ro_get g x y post := by
  unfold wp_Ro_get
  refine st_v (iI (7 * i)) (ml i 7 hx) ?_
  refine st_v (iI (7 * i + w)) (ad (7 * i) w rfl hy) ?_
  exact st_ld (7 * i + w) 630 hp
theorem p_Ro_set {g : Nat → Int32} (i w : Nat) {x y v : Int32} {post : (Nat → Int32) → Prop} (h : 7 * i + w < 630) (hp : post (upd g (7 * i + w) v)) (hx : x = iI i := by first | rfl | decide) (hy : y = iI w := by first | rfl | decide) : wp_Ro_set g x y v post := by
  unfold wp_Ro_set
  refine st_v (iI (7 * i)) (ml i 7 hx) ?_
  refine st_v (iI (7 * i + w)) (ad (7 * i) w rfl hy) ?_
  exact st_st (7 * i + w) 630 hp
theorem p_Ta_get {g : Nat → Int32} (i w : Nat) {x y : Int32} {post : Int32 → Unit → Prop} (h : 5 * i + w < 300) (hp : post (g (5 * i + w)) ()) (hx : x = iI i := by first | rfl | decide) (hy : y = iI w := by first | rfl | decide) : wp_Ta_get g x y post := by
  unfold wp_Ta_get
  refine st_v (iI (5 * i)) (ml i 5 hx) ?_
  refine st_v (iI (5 * i + w)) (ad (5 * i) w rfl hy) ?_
  exact st_ld (5 * i + w) 300 hp
theorem p_Ta_last {g : Nat → Int32} (n : Nat) {post : Int32 → Unit → Prop} (h0 : 0 < n) (h : n ≤ 60) (hp : post (g (5 * n - 5)) ()) : wp_Ta_lastAddress (iI n) g post := by
  unfold wp_Ta_lastAddress
  refine st_v (iI ((n - 1 : Nat) : Int)) (sb n 1) ?_
  have e : 5 * (n - 1) + 0 = 5 * n - 5 := by omega
  refine p_Ta_get (n - 1) 0 (by omega) ?_
  rw [e]
  exact hp
def sRow5 (E : Nat → Int32) (n : Nat) (a f l c s : Int32) : Nat → Int32 := upd (upd (upd (upd (upd E (5 * n) a) (5 * n + 1) f) (5 * n + 2) l) (5 * n + 3) c) (5 * n + 4) s
theorem p_Ta_append {g : Nat → Int32} (n : Nat) {a f l c s : Int32} {post : (Int32 × (Nat → Int32)) → Prop} (h : n < 60) (hp : post (iI ((n + 1 : Nat) : Int), sRow5 g n a f l c s)) : wp_Ta_append (iI n) g a f l c s post := by
  unfold wp_Ta_append
  refine st_v (iI (5 * n)) (ml n 5) ?_
  refine st_v (iI (5 * n)) (ad (5 * n) 0) ?_
  refine st_st (5 * n) 300 ?_
  refine st_v (iI (5 * n + 1)) (ad (5 * n) 1) ?_
  refine st_st (5 * n + 1) 300 ?_
  refine st_v (iI (5 * n + 2)) (ad (5 * n) 2) ?_
  refine st_st (5 * n + 2) 300 ?_
  refine st_v (iI (5 * n + 3)) (ad (5 * n) 3) ?_
  refine st_st (5 * n + 3) 300 ?_
  refine st_v (iI (5 * n + 4)) (ad (5 * n) 4) ?_
  refine st_st (5 * n + 4) 300 ?_
  exact st_v (iI ((n + 1 : Nat) : Int)) (ad n 1) hp
/-! the reader -/
theorem p_next {b : Nat → Int} {z : Nat} {f : Nat → Int32} (hb : bOk b z f) (t : Nat) {post : Int32 → Int32 → Prop} {postX : Nat × Int32 → Prop} (h1 : t < z → post (iI (b t)) (iI ((t + 1 : Nat) : Int))) (h2 : z ≤ t → ∀ u, postX (1, u)) (ht : t ≤ 600) : wp_Re_nextByte (iI t) (iI z) f post postX := by
  have hz := hb.1
  unfold wp_Re_nextByte
  refine br_lt t z (fun h => ?_) (fun h => ?_)
  · refine p_By_get t (by omega) ?_
    refine st_v (iI ((t + 1 : Nat) : Int)) (ad t 1) ?_
    rw [(hb.2 t (by omega)).1]
    exact h1 (by omega)
  · exact h2 (by omega) _
theorem p_fit {v : Int} {t : Nat} {post : Int32 → Int32 → Prop} {postX : Nat × Int32 → Prop} (b1 : -9000000000000000000 ≤ v) (b2 : v < 9000000000000000000) (h : sK (sFit v t) (fun q => post (iI q.1) (iI q.2)) (fun c => ∀ u, postX (c, u))) : wp_Re_fitting (lI v) (fun x (_ : Unit) => post x (iI t)) (fun (u : Nat × Unit) => postX (u.1, iI t)) := by
  unfold wp_Re_fitting
  unfold sFit at h
  refine lc_lt v (-2147483648) (fun q => ?_) (fun q => ?_)
  · rw [if_pos (Or.inl q)] at h
    exact h _
  · refine lc_le v 2147483647 (fun q2 => ?_) (fun q2 => ?_)
    · rw [if_neg (by omega)] at h
      exact st_v (iI v) (lI_i v) h
    · rw [if_pos (Or.inr q2)] at h
      exact h _
theorem p7_lo (g : Nat) : 1 ≤ p7 g ∧ p7 g ≤ 268435456 := by
  unfold p7
  split <;> omega
theorem p7_up (k : Nat) (h0 : 0 < k) (h : k < 5) : p7 (5 - k) = 128 * p7 (4 - k) := by
  rcases (show k = 1 ∨ k = 2 ∨ k = 3 ∨ k = 4 by omega) with rfl | rfl | rfl | rfl <;> rfl
theorem p7_mul {x w : Int} (h0 : 0 ≤ x) (h1 : x ≤ 127) (hw : 1 ≤ w) : 0 ≤ x * w ∧ x * w ≤ 127 * w := ⟨Int.mul_nonneg h0 (by omega), Int.mul_le_mul_of_nonneg_right h1 (by omega)⟩
def sg1 (sg : Bool) : Int := if sg = true then 1 else 0
theorem p_num {b : Nat → Int} {z : Nat} {f : Nat → Int32} (hb : bOk b z f) {sg : Bool} {post : Int32 → Int32 → Prop} {postX : Nat × Int32 → Prop} : ∀ (k t : Nat) (a gi : Int), k ≤ 5 → t ≤ z → gi = 5 - k → 0 ≤ a → (0 < k → a < p7 (5 - k)) → sK (sNum b z sg k t a) (fun q => post (iI q.1) (iI q.2)) (fun c => ∀ u, postX (c, u)) →
    wl_Re_nextNumber_5 (iI z) f (iI (sg1 sg)) post postX (k + 1) (iI t) (lI a) (iI gi) := by
  have hz := hb.1
  intro k
  induction k with
  | zero =>
    intro t a gi _ _ hg _ _ h
    unfold wl_Re_nextNumber_5
    exact br_le 5 gi (fun _ => h _) (fun q => by omega)
  | succ k ih =>
    intro t a gi hk ht hg ha0 ha h
    have h5 : 5 - (k + 1) = 4 - k := by omega
    have ha := ha (by omega)
    rw [h5] at ha
    have hw := p7_lo (4 - k)
    unfold wl_Re_nextNumber_5
    refine br_le 5 gi (fun q => by omega) (fun _ => ?_)
    unfold sNum at h
    refine p_next hb t (fun q => ?_) (fun q => ?_) (by omega)
    · rw [if_neg (by omega)] at h
      obtain ⟨-, b0, b1⟩ := hb.2 t q
      have hm := p7_mul (x := b t % 128) (w := p7 (4 - k)) (by omega) (by omega) hw.1
      refine st_v (iI (b t % 128)) (iI_127 _) ?_
      refine st_v (lI (b t % 128)) iI_l ?_
      refine st_v (iI (7 * ((4 - k : Nat) : Int))) (ml 7 gi) ?_
      intro x68 e68 x69 e69
      rw [e68, lI_or7 (4 - k) (by omega) ha0 ha (by omega) (by omega)] at e69
      subst e69
      refine br_le 128 (b t) (fun q2 => ?_) (fun q2 => ?_)
      · rw [if_neg (by omega)] at h
        have e1 : b t % 128 = b t - 128 := by omega
        rw [e1] at hm ⊢
        refine st_v (iI (gi + 1)) (ad gi 1) ?_
        exact ih (t + 1) _ (gi + 1) (by omega) (by omega) (by omega) (by omega) (fun hk0 => by
          have e2 := p7_up k hk0 (by omega)
          omega) h
      · rw [if_pos (by omega)] at h
        have e1 : b t % 128 = b t := by omega
        rw [e1] at hm ⊢
        cases sg with
        | false =>
          rw [if_neg (fun q => Bool.noConfusion q.1)] at h
          refine br_eq 0 0 (fun _ => ?_) (fun q => absurd rfl q)
          unfold wj_Re_nextNumber_56
          exact ⟨fun _ => p_fit (by omega) (by omega) h, fun q => absurd rfl q⟩
        | true =>
          refine br_eq 1 0 (fun q => by omega) (fun _ => ?_)
          intro x106 e106
          subst e106
          rcases (show b t < 64 ∨ 64 ≤ b t by omega) with q3 | q3
          · rw [if_neg (fun q => by omega)] at h
            refine ⟨fun _ => ?_, fun q4 => absurd ((iI_64 (v := b t) (by omega) (by omega)).mpr q3) q4⟩
            unfold wj_Re_nextNumber_56
            exact ⟨fun _ => p_fit (by omega) (by omega) h, fun q => absurd rfl q⟩
          · rw [if_pos ⟨rfl, q3⟩] at h
            refine ⟨fun q4 => absurd ((iI_64 (v := b t) (by omega) (by omega)).mp q4) (by omega), fun _ => ⟨fun q5 => absurd q5 (by decide), fun _ => ?_⟩⟩
            refine st_v (iI (7 * ((4 - k : Nat) : Int))) (ml 7 gi) ?_
            refine st_v (lI (128 * p7 (4 - k))) (lI_shl7 (4 - k) (by omega)) ?_
            refine st_v (lI (a + b t * p7 (4 - k) - 128 * p7 (4 - k))) (lI_sub _ _) ?_
            exact p_fit (by omega) (by omega) h
    · rw [if_pos q] at h
      exact fun u => h _
theorem p_uns {b : Nat → Int} {z : Nat} {f : Nat → Int32} (hb : bOk b z f) {t : Nat} (ht : t ≤ z) {post : Int32 → Int32 → Prop} {postX : Nat × Int32 → Prop} (h : sK (sNum b z false 5 t 0) (fun q => post (iI q.1) (iI q.2)) (fun c => ∀ u, postX (c, u))) : wp_Re_nextUnsigned (iI t) (iI z) f post postX := by
  have q := p_num hb 5 t 0 0 (by omega) ht (by omega) (by omega) (fun _ => by decide) h
  have e1 : (0 : Int64) = lI 0 := by decide
  have e2 : (0 : Int32) = iI 0 := by decide
  unfold wp_Re_nextUnsigned wp_Re_nextNumber
  refine ⟨6, ?_⟩
  rw [e1, e2]
  exact q
theorem p_sig {b : Nat → Int} {z : Nat} {f : Nat → Int32} (hb : bOk b z f) {t : Nat} (ht : t ≤ z) {post : Int32 → Int32 → Prop} {postX : Nat × Int32 → Prop} (h : sK (sNum b z true 5 t 0) (fun q => post (iI q.1) (iI q.2)) (fun c => ∀ u, postX (c, u))) : wp_Re_nextSigned (iI t) (iI z) f post postX := by
  have q := p_num hb 5 t 0 0 (by omega) ht (by omega) (by omega) (fun _ => by decide) h
  have e1 : (0 : Int64) = lI 0 := by decide
  have e2 : (0 : Int32) = iI 0 := by decide
  have e3 : (1 : Int32) = iI 1 := by decide
  unfold wp_Re_nextSigned wp_Re_nextNumber
  refine ⟨6, ?_⟩
  rw [e1, e2, e3]
  exact q
def sFix (b : Nat → Int) : Nat → Nat → Nat → Int → Int
  | 0, _, _, a => a
  | j + 1, t, i, a => sFix b j (t + 1) (i + 1) (a + b t * p8 i)
theorem p8_lo (g : Nat) : 1 ≤ p8 g ∧ p8 g ≤ 16777216 := by
  unfold p8
  split <;> omega
theorem p8_up (k : Nat) (h : k < 3) : p8 (k + 1) = 256 * p8 k := by
  rcases (show k = 0 ∨ k = 1 ∨ k = 2 by omega) with rfl | rfl | rfl <;> rfl
theorem p_fixL {b : Nat → Int} {z : Nat} {f : Nat → Int32} (hb : bOk b z f) {post : Int64 → Int32 → Prop} {postX : Nat × Int32 → Prop} {p0 : Int32} (L : Nat) (hp : p0 = iI L) (hL : L ≤ 4) : ∀ (j t i : Nat) (a : Int), i + j = L → t ≤ z → 0 ≤ a → (0 < j → a < p8 i) → (t + j ≤ z → post (lI (sFix b j t i a)) (iI ((t + j : Nat) : Int))) → (z < t + j → ∀ u, postX (1, u)) →
    wl_Re_nextFixed_5 (iI z) f p0 post postX (j + 1) (iI t) (lI a) (iI i) := by
  have hz := hb.1
  intro j
  induction j with
  | zero =>
    intro t i a hi ht _ _ h _
    unfold wl_Re_nextFixed_5
    exact br_le L i (fun _ => h (by omega)) (fun q => by omega) hp
  | succ j ih =>
    intro t i a hi ht ha0 ha h h2
    have ha := ha (by omega)
    have hw := p8_lo i
    unfold wl_Re_nextFixed_5
    refine br_le L i (fun q => by omega) (fun _ => ?_) hp
    refine p_next hb t (fun q => ?_) (fun q => h2 (by omega)) (by omega)
    obtain ⟨-, b0, b1⟩ := hb.2 t q
    have hm : 0 ≤ b t * p8 i ∧ b t * p8 i ≤ 255 * p8 i := ⟨Int.mul_nonneg b0 (by omega), Int.mul_le_mul_of_nonneg_right (by omega) (by omega)⟩
    refine st_v (lI (b t)) iI_l ?_
    refine st_v (iI (8 * (i : Int))) (ml 8 i) ?_
    intro x19 e19 x20 e20
    rw [e19, lI_or8 i (by omega) ha0 ha b0 b1] at e20
    subst e20
    refine st_v (iI ((i + 1 : Nat) : Int)) (ad i 1) ?_
    have e4 : t + (j + 1) = t + 1 + j := by omega
    rw [e4] at h h2
    exact ih (t + 1) (i + 1) _ (by omega) (by omega) (by omega) (fun hj => by
      have e2 := p8_up i (by omega)
      omega) h h2
theorem p_fix {b : Nat → Int} {z : Nat} {f : Nat → Int32} (hb : bOk b z f) {post : Int64 → Int32 → Prop} {postX : Nat × Int32 → Prop} {p0 : Int32} (L : Nat) {t : Nat} (hL : L ≤ 4) (hL0 : 0 < L) (ht : t ≤ z) (h : t + L ≤ z → post (lI (sFix b L t 0 0)) (iI ((t + L : Nat) : Int))) (h2 : z < t + L → ∀ u, postX (1, u)) (hp : p0 = iI L := by first | rfl | decide) : wp_Re_nextFixed (iI t) (iI z) f p0 post postX := by
  have q := p_fixL hb L hp hL L t 0 0 (by omega) ht (by omega) (fun _ => by decide) h h2
  have e1 : (0 : Int64) = lI 0 := by decide
  have e2 : (0 : Int32) = iI ((0 : Nat) : Int) := by decide
  unfold wp_Re_nextFixed
  refine ⟨L + 1, ?_⟩
  rw [e1, e2]
  exact q
theorem sFix_2 (b : Nat → Int) (t : Nat) : sFix b 2 t 0 0 = b t + b (t + 1) * 256 := by
  show 0 + b t * 1 + b (t + 1) * 256 = _
  omega
theorem sFix_4 (b : Nat → Int) (t : Nat) : sFix b 4 t 0 0 = sFix4 b t := by
  show 0 + b t * 1 + b (t + 1) * 256 + b (t + 2) * 65536 + b (t + 3) * 16777216 = _
  unfold sFix4
  omega
/-! numbers that a program holds -/
theorem sFit_ok {v : Int} {t : Nat} {q : Int × Nat} (h : sFit v t = .inr q) : q = (v, t) ∧ -2147483648 ≤ v ∧ v ≤ 2147483647 := by
  unfold sFit at h
  split at h
  · cases h
  · cases h
    exact ⟨rfl, by omega, by omega⟩
theorem sNum_ok {b : Nat → Int} {z : Nat} {f : Nat → Int32} (hb : bOk b z f) {sg : Bool} {q : Int × Nat} : ∀ (k t : Nat) (a : Int), 0 ≤ a → sNum b z sg k t a = .inr q → -2147483648 ≤ q.1 ∧ q.1 ≤ 2147483647 ∧ (sg = false → 0 ≤ q.1) ∧ t < q.2 ∧ q.2 ≤ z := by
  intro k
  induction k with
  | zero =>
    intro t a _ h
    cases h
  | succ k ih =>
    intro t a ha h
    unfold sNum at h
    have hw := p7_lo (4 - k)
    split at h
    · cases h
    · rename_i ht
      obtain ⟨-, b0, b1⟩ := hb.2 t (by omega)
      split at h
      · obtain ⟨rfl, h1, h2⟩ := sFit_ok h
        refine ⟨h1, h2, fun hs => ?_, by show t < t + 1; omega, by show t + 1 ≤ z; omega⟩
        subst hs
        have hm : 0 ≤ b t * p7 (4 - k) := Int.mul_nonneg b0 (by omega)
        show (0 : Int) ≤ (if false = true ∧ 64 ≤ b t then a + b t * p7 (4 - k) - 128 * p7 (4 - k) else a + b t * p7 (4 - k))
        rw [if_neg (fun q => Bool.noConfusion q.1)]
        omega
      · have hm : 0 ≤ (b t - 128) * p7 (4 - k) := Int.mul_nonneg (by omega) (by omega)
        obtain ⟨h1, h2, h3, h4, h5⟩ := ih (t + 1) _ (by omega) h
        exact ⟨h1, h2, h3, by omega, h5⟩
