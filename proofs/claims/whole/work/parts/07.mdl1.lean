/-! the reference, method by method -/
theorem c1 : (1 : Int32) = iI ((1 : Nat) : Int) := by decide
theorem c2 : (2 : Int32) = iI ((2 : Nat) : Int) := by decide
theorem c3 : (3 : Int32) = iI ((3 : Nat) : Int) := by decide
theorem c4 : (4 : Int32) = iI ((4 : Nat) : Int) := by decide
theorem c5 : (5 : Int32) = iI ((5 : Nat) : Int) := by decide
theorem c6 : (6 : Int32) = iI ((6 : Nat) : Int) := by decide
theorem d1 : ¬ iI ((1 : Nat) : Int) = 0 := by decide
theorem d3 : ¬ iI ((3 : Nat) : Int) = 0 := by decide
theorem d4 : ¬ iI ((4 : Nat) : Int) = 0 := by decide
theorem d5 : ¬ iI ((5 : Nat) : Int) = 0 := by decide
theorem q_wrong {ft x : Int32} {post : Int32 → Prop} (h1 : ¬ ft = 0 → post ft) (h2 : ft = 0 → post x) : wp_Mo_wrong ft x post := ⟨h1, h2⟩
theorem q_next {b : Nat → Int} {z : Nat} {B : Nat → Int32} (hb : bOk b z B) {t : Nat} (ht : t ≤ z) {ft : Int32} {post : Int32 → (Int32 × Int32) → Prop} (h1 : t < z → post (iI (b t)) (iI ((t + 1 : Nat) : Int), ft)) (h2 : t = z → ft = 0 → post 0 (iI t, iI ((1 : Nat) : Int))) (h3 : t = z → ¬ ft = 0 → post 0 (iI t, ft)) : wp_Mo_next (iI z) (iI t) ft B post := by
  have hz := hb.1
  unfold wp_Mo_next
  refine br_lt t z (fun q => ?_) (fun q => ?_)
  · refine st_v (iI ((t + 1 : Nat) : Int)) (ad t 1) ?_
    refine st_v (iI t) (sb ((t + 1 : Nat) : Int) 1) ?_
    refine st_ld t 600 ?_
    rw [(hb.2 t (by omega)).1]
    exact h1 (by omega)
  · rw [c1]
    exact q_wrong (h3 (by omega)) (h2 (by omega))
/-- with a fault: whatever comes, no other one -/
theorem x_next {b : Nat → Int} {z : Nat} {B : Nat → Int32} (hb : bOk b z B) {t : Nat} (ht : t ≤ z) {ft : Int32} (hf : ¬ ft = 0) {post : Int32 → (Int32 × Int32) → Prop} (h : ∀ (x : Int32) (t' : Nat), t' ≤ z → post x (iI t', ft)) : wp_Mo_next (iI z) (iI t) ft B post := q_next hb ht (fun q => h _ (t + 1) (by omega)) (fun _ q => absurd q hf) (fun _ _ => h _ t ht)
theorem x_check {A L : Int64} {ft : Int32} (hf : ¬ ft = 0) {post : Int32 → Prop} (h : post ft) : wp_Mo_check A L ft post := by
  unfold wp_Mo_check
  have w : wp_Mo_wrong ft 3 (fun u => post u) := q_wrong (fun _ => h) (fun q => absurd q hf)
  intro x1 _
  refine ⟨fun _ => w, fun _ => ?_⟩
  intro x6 _
  refine ⟨fun _ => w, fun _ => ?_⟩
  intro x11 _
  exact ⟨fun _ => h, fun _ => w⟩
theorem lc_gt {x y : Int64} {A B : Prop} (a b : Int) (f : b < a → A) (g : a ≤ b → B) (hx : x = lI a := by first | rfl | decide) (hy : y = lI b := by first | rfl | decide) (a1 : -9223372036854775808 ≤ a := by omega) (a2 : a < 9223372036854775808 := by omega) (b1 : -9223372036854775808 ≤ b := by omega) (b2 : b < 9223372036854775808 := by omega) : ∀ z : Int32, z = lg_cmp x y → (0 < z → A) ∧ (¬ 0 < z → B) := by
  intro z hz
  subst hz hx hy
  rw [lg_cmp_gt, lI_lt b1 b2 a1 a2]
  exact ⟨f, fun h => g (Int.not_lt.mp h)⟩
theorem y_check {a l : Int} {post : Int32 → Prop} (a1 : -9000000000000000000 ≤ a) (a2 : a ≤ 9000000000000000000) (l1 : -9000000000000000000 ≤ l) (l2 : l ≤ 9000000000000000000) (h1 : (l < 0 ∨ 2147483647 < l ∨ 2147483647 < a) → post (iI ((3 : Nat) : Int))) (h2 : 0 ≤ l → l ≤ 2147483647 → a ≤ 2147483647 → post 0) : wp_Mo_check (lI a) (lI l) 0 post := by
  unfold wp_Mo_check
  have w : ∀ _ : post (iI ((3 : Nat) : Int)), wp_Mo_wrong 0 3 (fun u => post u) := fun h => q_wrong (fun q => absurd rfl q) (fun _ => by rw [c3]; exact h)
  refine lc_lt l 0 (fun q => w (h1 (Or.inl q))) (fun q => ?_)
  refine lc_gt l 2147483647 (fun q2 => w (h1 (Or.inr (Or.inl q2)))) (fun q2 => ?_)
  exact lc_le a 2147483647 (fun q3 => h2 q q2 q3) (fun q3 => w (h1 (Or.inr (Or.inr q3))))
/-! numbers -/
theorem x_100 {p0 T ft : Int32} {V : Int64} {post : Int64 → (Int32 × Int32) → Prop} (hf : ¬ ft = 0) (h : post 0 (T, ft)) : wj_Mo_number_100 p0 post T ft V := by
  have e : (¬ ft = 0 → post 0 (T, ft)) ∧ (ft = 0 → post V (T, ft)) := ⟨fun _ => h, fun q => absurd q hf⟩
  have w : wp_Mo_wrong ft 2 (fun u => (¬ u = 0 → post 0 (T, u)) ∧ (u = 0 → post V (T, u))) := q_wrong (fun _ => e) (fun q => absurd q hf)
  unfold wj_Mo_number_100
  refine ⟨fun _ => ?_, fun _ => ?_⟩
  · intro x _
    exact ⟨fun _ => e, fun _ => w⟩
  · intro x _
    refine ⟨fun _ => w, fun _ => ?_⟩
    intro x2 _
    exact ⟨fun _ => e, fun _ => w⟩
theorem x_81 {p0 T ft bits b0 : Int32} {V : Int64} {post : Int64 → (Int32 × Int32) → Prop} (hf : ¬ ft = 0) (h : post 0 (T, ft)) : wj_Mo_number_81 p0 post T ft V bits b0 := by
  unfold wj_Mo_number_81
  refine ⟨fun _ => x_100 hf h, fun _ => ?_⟩
  intro x _
  refine ⟨fun _ => x_100 hf h, fun _ => ?_⟩
  intro x1 _ x2 _
  exact x_100 hf h
theorem x_numL {p0 T ft bits b0 z : Int32} {V : Int64} {B : Nat → Int32} {post : Int64 → (Int32 × Int32) → Prop} (hf : ¬ ft = 0) (h : post 0 (T, ft)) (j : Nat) : wl_Mo_number_10 z B p0 post (j + 1) T ft V bits b0 := by
  unfold wl_Mo_number_10
  exact ⟨fun _ => x_81 hf h, fun _ => ⟨fun _ => x_81 hf h, fun q => absurd q hf⟩⟩
theorem y_100 {sg : Bool} {v : Int} {t : Nat} {post : Int64 → (Int32 × Int32) → Prop} (b1 : -9000000000000000000 ≤ v) (b2 : v < 9000000000000000000) (hs : sg = false → 0 ≤ v) (h : sK (sFit v t) (fun q => post (lI q.1) (iI q.2, 0)) (fun c => post 0 (iI t, iI c))) : wj_Mo_number_100 (iI (sg1 sg)) post (iI t) 0 (lI v) := by
  unfold sFit at h
  have ok : ∀ _ : post (lI v) (iI t, 0), (¬ (0 : Int32) = 0 → post 0 (iI t, 0)) ∧ ((0 : Int32) = 0 → post (lI v) (iI t, 0)) := fun h => ⟨fun q => absurd rfl q, fun _ => h⟩
  have w : ∀ _ : post 0 (iI t, iI ((2 : Nat) : Int)), wp_Mo_wrong 0 2 (fun u => (¬ u = 0 → post 0 (iI t, u)) ∧ (u = 0 → post (lI v) (iI t, u))) := fun h => q_wrong (fun q => absurd rfl q) (fun _ => ⟨fun _ => by rw [c2]; exact h, fun q => absurd q (by decide)⟩)
  unfold wj_Mo_number_100
  cases sg with
  | false =>
    have hs := hs rfl
    refine br_eq 0 0 (fun _ => ?_) (fun q => absurd rfl q)
    refine lc_le v 2147483647 (fun q => ?_) (fun q => ?_)
    · rw [if_neg (by omega)] at h
      exact ok h
    · rw [if_pos (by omega)] at h
      exact w h
  | true =>
    refine br_eq 1 0 (fun q => by omega) (fun _ => ?_)
    refine lc_lt v (-2147483648) (fun q => ?_) (fun q => ?_)
    · rw [if_pos (by omega)] at h
      exact w h
    · refine lc_le v 2147483647 (fun q => ?_) (fun q => ?_)
      · rw [if_neg (by omega)] at h
        exact ok h
      · rw [if_pos (by omega)] at h
        exact w h
theorem q_num {b : Nat → Int} {z : Nat} {B : Nat → Int32} (hb : bOk b z B) {sg : Bool} {post : Int64 → (Int32 × Int32) → Prop} : ∀ (k t : Nat) (a gi b0 : Int), 0 < k → k ≤ 5 → t ≤ z → gi = 7 * (5 - k) → 0 ≤ a → a < p7 (5 - k) → 127 < b0 → b0 < 256 → sK (sNum b z sg k t a) (fun q => post (lI q.1) (iI q.2, 0)) (fun c => ∀ t' : Nat, t' ≤ z → post 0 (iI t', iI c)) →
    wl_Mo_number_10 (iI z) B (iI (sg1 sg)) post (k + 1) (iI t) 0 (lI a) (iI gi) (iI b0) := by
  have hz := hb.1
  intro k
  induction k with
  | zero =>
    intro t a gi b0 h0
    omega
  | succ k ih =>
    intro t a gi b0 _ hk ht hg ha0 ha b00 b01 h
    have h5 : 5 - (k + 1) = 4 - k := by omega
    rw [h5] at ha
    have hw := p7_lo (4 - k)
    unfold wl_Mo_number_10
    refine br_le b0 127 (fun q => by omega) (fun _ => ?_)
    refine ⟨fun q => absurd rfl q, fun _ => ?_⟩
    refine br_ne gi 35 (fun _ => ?_) (fun q => by omega)
    unfold sNum at h
    refine q_next hb ht (fun q => ?_) (fun q _ => ?_) (fun _ q => absurd rfl q)
    · rw [if_neg (by omega)] at h
      obtain ⟨-, b00, b01⟩ := hb.2 t q
      have hm := p7_mul (x := b t % 128) (w := p7 (4 - k)) (by omega) (by omega) hw.1
      refine st_v (iI (b t % 128)) (iI_127 _) ?_
      refine st_v (lI (b t % 128)) iI_l ?_
      have e7 : gi = 7 * ((4 - k : Nat) : Int) := by omega
      intro x68 e68 x69 e69
      rw [e68, e7, lI_or7 (4 - k) (by omega) ha0 ha (by omega) (by omega)] at e69
      subst e69
      refine st_v (iI (gi + 7)) (ad gi 7) ?_
      rcases (show b t < 128 ∨ 128 ≤ b t by omega) with q2 | q2
      · rw [if_pos q2] at h
        have e1 : b t % 128 = b t := by omega
        rw [e1] at hm ⊢
        have fin : wl_Mo_number_10 (iI z) B (iI (sg1 sg)) post (k + 1) (iI ((t + 1 : Nat) : Int)) 0 (lI (a + b t * p7 (4 - k))) (iI (gi + 7)) (iI (b t)) := by
          unfold wl_Mo_number_10
          refine br_le (b t) 127 (fun _ => ?_) (fun q => by omega)
          unfold wj_Mo_number_81
          cases sg with
          | false =>
            rw [if_neg (fun q => Bool.noConfusion q.1)] at h
            refine br_eq 0 0 (fun _ => ?_) (fun q => absurd rfl q)
            exact y_100 (sg := false) (by omega) (by omega) (fun _ => by omega) (sK_mono h (fun _ _ q => q) (fun c _ q => q _ (by omega)))
          | true =>
            refine br_eq 1 0 (fun q => by omega) (fun _ => ?_)
            intro x271 e271
            subst e271
            rcases (show b t < 64 ∨ 64 ≤ b t by omega) with q3 | q3
            · rw [if_neg (fun q => by omega)] at h
              refine ⟨fun _ => ?_, fun q4 => absurd ((iI_64 (v := b t) (by omega) (by omega)).mpr q3) q4⟩
              exact y_100 (sg := true) (by omega) (by omega) (fun q => Bool.noConfusion q) (sK_mono h (fun _ _ q => q) (fun c _ q => q _ (by omega)))
            · rw [if_pos ⟨rfl, q3⟩] at h
              refine ⟨fun q4 => absurd ((iI_64 (v := b t) (by omega) (by omega)).mp q4) (by omega), fun _ => ?_⟩
              have e8 : gi + 7 = 7 * ((4 - k : Nat) : Int) + 7 := by omega
              refine st_v (lI (128 * p7 (4 - k))) (by rw [e8]; exact lI_shl1 (4 - k) (by omega)) ?_
              refine st_v (lI (a + b t * p7 (4 - k) - 128 * p7 (4 - k))) (lI_sub _ _) ?_
              exact y_100 (sg := true) (by omega) (by omega) (fun q => Bool.noConfusion q) (sK_mono h (fun _ _ q => q) (fun c _ q => q _ (by omega)))
        refine ⟨fun _ => fin, fun _ => ?_⟩
        exact br_le (b t) 127 (fun _ => fin) (fun q => by omega)
      · rw [if_neg (by omega)] at h
        have e1 : b t % 128 = b t - 128 := by omega
        rw [e1] at hm ⊢
        refine br_ne (gi + 7) 35 (fun q3 => ?_) (fun q3 => ?_)
        · have hk0 : 0 < k := by omega
          have e2 := p7_up k hk0 (by omega)
          exact ih (t + 1) _ (gi + 7) (b t) hk0 (by omega) (by omega) (by omega) (by omega) (by omega) (by omega) (by omega) h
        · obtain rfl : k = 0 := by omega
          refine br_le (b t) 127 (fun q => by omega) (fun _ => ?_)
          refine q_wrong (fun q => absurd rfl q) (fun _ => ?_)
          rw [c2]
          exact x_numL (by decide) (h (t + 1) (by omega)) 0
    · rw [if_pos (by omega)] at h
      have h1 : post 0 (iI t, iI ((1 : Nat) : Int)) := h t ht
      intro _ _ _ _ _ _ _ _ x5 _
      refine ⟨fun _ => x_numL (by decide) h1 k, fun _ => ?_⟩
      exact ⟨fun _ => x_numL (by decide) h1 k, fun q => absurd (by decide) q⟩
theorem q_uns {b : Nat → Int} {z : Nat} {B : Nat → Int32} (hb : bOk b z B) {t : Nat} (ht : t ≤ z) {post : Int64 → (Int32 × Int32) → Prop} (h : sK (sNum b z false 5 t 0) (fun q => post (lI q.1) (iI q.2, 0)) (fun c => ∀ t' : Nat, t' ≤ z → post 0 (iI t', iI c))) : wp_Mo_number (iI z) (iI t) 0 B 0 post := by
  have q := q_num hb 5 t 0 0 128 (by omega) (by omega) ht (by omega) (by omega) (by decide) (by omega) (by omega) h
  have e1 : lI 0 = (0 : Int64) := by decide
  have e2 : iI 0 = (0 : Int32) := by decide
  have e3 : iI 128 = (128 : Int32) := by decide
  have e4 : iI (sg1 false) = (0 : Int32) := by decide
  rw [e1, e2, e3, e4] at q
  unfold wp_Mo_number
  exact ⟨6, q⟩
theorem q_sig {b : Nat → Int} {z : Nat} {B : Nat → Int32} (hb : bOk b z B) {t : Nat} (ht : t ≤ z) {post : Int64 → (Int32 × Int32) → Prop} (h : sK (sNum b z true 5 t 0) (fun q => post (lI q.1) (iI q.2, 0)) (fun c => ∀ t' : Nat, t' ≤ z → post 0 (iI t', iI c))) : wp_Mo_number (iI z) (iI t) 0 B 1 post := by
  have q := q_num hb 5 t 0 0 128 (by omega) (by omega) ht (by omega) (by omega) (by decide) (by omega) (by omega) h
  have e1 : lI 0 = (0 : Int64) := by decide
  have e2 : iI 0 = (0 : Int32) := by decide
  have e3 : iI 128 = (128 : Int32) := by decide
  have e4 : iI (sg1 true) = (1 : Int32) := by decide
  rw [e1, e2, e3, e4] at q
  unfold wp_Mo_number
  exact ⟨6, q⟩
theorem sFit_bad {v : Int} {t c : Nat} (h : sFit v t = .inl c) : c = 2 := by
  unfold sFit at h
  split at h
  · cases h
    rfl
  · cases h
theorem sNum_bad {b : Nat → Int} {z : Nat} {sg : Bool} {c : Nat} : ∀ (k t : Nat) (a : Int), sNum b z sg k t a = .inl c → c = 1 ∨ c = 2 := by
  intro k
  induction k with
  | zero =>
    intro t a h
    cases h
    exact Or.inr rfl
  | succ k ih =>
    intro t a h
    unfold sNum at h
    split at h
    · cases h
      exact Or.inl rfl
    · split at h
      · exact Or.inr (sFit_bad h)
      · exact ih _ _ h
theorem iI_c12 {c : Nat} (h : c = 1 ∨ c = 2) : ¬ iI (c : Int) = 0 := by
  rcases h with rfl | rfl <;> decide
/-! rows -/
theorem x_come {nr st bk fs ft p0 : Int32} {A L F C bf : Int64} {g : Nat → Int32} {post : (Int32 × Int32 × Int64 × Int32 × Int32 × (Nat → Int32)) → Prop} (hf : ¬ ft = 0) (h : post (nr, bk, bf, fs, ft, g)) : wp_Mo_come nr A L F C st bk bf fs ft g p0 post := by
  unfold wp_Mo_come
  exact ⟨fun q => absurd q hf, fun _ => h⟩
def bOf (m : Int) (bf : Int64) (fs : Int32) : Prop := (fs = 1 ∧ m = 0) ∨ (fs = 0 ∧ bf = lI m)
theorem y_come {a f l c s k m e : Int} {n : Nat} {g R : Nat → Int32} {bf : Int64} {fs x : Int32} {post : (Int32 × Int32 × Int64 × Int32 × Int32 × (Nat → Int32)) → Prop} (hbf : bOf m bf fs) (a0 : 0 ≤ a) (a1 : a ≤ 2147483647) (m0 : 0 ≤ m) (m1 : m ≤ 2147483647) (hn : n ≤ 90) (he : e = 0 ∨ e = 1) (hg : ag (7 * n) g R)
    (h1 : ¬ a < m → n < 90 → ∀ g', ag (7 * (n + 1)) g' (sRow7 R n a f l c s k e) → post (iI ((n + 1 : Nat) : Int), iI 0, lI a, 0, 0, g')) (h2 : a < m → post (iI n, iI k, bf, fs, iI ((4 : Nat) : Int), g)) (h3 : ¬ a < m → 90 ≤ n → post (iI n, iI k, bf, fs, iI ((5 : Nat) : Int), g)) (hx : x = iI e := by first | rfl | decide) : wp_Mo_come (iI n) (lI a) (lI l) (lI f) (lI c) (iI s) (iI k) bf fs 0 g x post := by
  subst hx
  have main : ¬ a < m → wj_Mo_come_35 (iI n) (lI a) (lI l) (lI f) (lI c) (iI s) (iI k) bf fs 0 g (iI e) post := by
    intro q
    unfold wj_Mo_come_35
    refine br_ne n 90 (fun q2 => ?_) (fun q2 => ?_)
    · refine st_v (iI (7 * n)) (ml 7 n) ?_
      refine st_v (iI a) (lI_i a) ?_
      refine st_st (7 * n) 630 ?_
      refine st_v (iI (7 * n + 1)) (ad (7 * n) 1) ?_
      refine st_v (iI f) (lI_i f) ?_
      refine st_st (7 * n + 1) 630 ?_
      refine st_v (iI (7 * n + 2)) (ad (7 * n) 2) ?_
      refine st_v (iI l) (lI_i l) ?_
      refine st_st (7 * n + 2) 630 ?_
      refine st_v (iI (7 * n + 3)) (ad (7 * n) 3) ?_
      refine st_v (iI c) (lI_i c) ?_
      refine st_st (7 * n + 3) 630 ?_
      refine st_v (iI (7 * n + 4)) (ad (7 * n) 4) ?_
      refine st_st (7 * n + 4) 630 ?_
      refine st_v (iI (7 * n + 5)) (ad (7 * n) 5) ?_
      refine st_st (7 * n + 5) 630 ?_
      refine st_v (iI (7 * n + 6)) (ad (7 * n) 6) ?_
      have last : wj_Mo_come_151 (iI n) (lI a) 0 post (upd (upd (upd (upd (upd (upd g (7 * n) (iI a)) (7 * n + 1) (iI f)) (7 * n + 2) (iI l)) (7 * n + 3) (iI c)) (7 * n + 4) (iI s)) (7 * n + 5) (iI k)) (iI (7 * n + 6)) (iI e) := by
        unfold wj_Mo_come_151
        refine st_st (7 * n + 6) 630 ?_
        refine st_v (iI ((n + 1 : Nat) : Int)) (ad n 1) ?_
        have h := h1 q (by omega) _ (ag_row hg)
        rw [← l0] at h
        exact h
      rcases he with rfl | rfl
      · exact ⟨fun _ => last, fun q => absurd (by decide) q⟩
      · exact ⟨fun q => absurd q (by decide), fun _ => last⟩
    · exact q_wrong (fun q => absurd rfl q) (fun _ => by rw [c5]; exact h3 q (by omega))
  unfold wp_Mo_come
  refine ⟨fun _ => ?_, fun q => absurd rfl q⟩
  rcases hbf with ⟨rfl, rfl⟩ | ⟨rfl, rfl⟩
  · exact ⟨fun _ => main (by omega), fun q => absurd q (by decide)⟩
  · refine ⟨fun q => absurd rfl q, fun _ => ?_⟩
    refine lc_ge a m (fun q => main (by omega)) (fun q => ?_)
    exact q_wrong (fun q => absurd rfl q) (fun _ => by rw [c4]; exact h2 q)
