/-! what the machine keeps, and its run -/
theorem uLine {v a f l c s k m : Int} {t n : Nat} {R : Nat → Int32} {d : Bool} {ok : MS → Prop} {bad : Nat → Prop} (h1 : 0 ≤ l + v ∧ l + v ≤ 2147483647 → ok (a, f, l + v, c, s, k, m, t, n, R, d)) (h2 : ¬ (0 ≤ l + v ∧ l + v ≤ 2147483647) → bad 3) : sK (sLine v (a, f, l, c, s, k, m, t, n, R, d)) ok bad := by
  unfold sLine
  dsimp only
  by_cases q : l + v < 0 ∨ 2147483647 < l + v
  · rw [if_pos q]
    exact h2 (by omega)
  · rw [if_neg q]
    exact h1 (by omega)
theorem uAddr {w a f l c s k m : Int} {t n : Nat} {R : Nat → Int32} {d : Bool} {ok : MS → Prop} {bad : Nat → Prop} (h1 : w ≤ 2147483647 → ok (w, f, l, c, s, k, m, t, n, R, d)) (h2 : 2147483647 < w → bad 3) : sK (sAddr w (a, f, l, c, s, k, m, t, n, R, d)) ok bad := by
  unfold sAddr
  dsimp only
  by_cases q : 2147483647 < w
  · rw [if_pos q]
    exact h2 q
  · rw [if_neg q]
    exact h1 (by omega)
theorem uRow {e a f l c s k m : Int} {t n : Nat} {R : Nat → Int32} {d : Bool} {ok : MS → Prop} {bad : Nat → Prop} (h1 : a < m → bad 4) (h2 : ¬ a < m → 90 ≤ n → bad 5) (h3 : ¬ a < m → n < 90 → ok (a, f, l, c, s, 0, a, t, n + 1, sRow7 R n a f l c s k e, d)) : sK (sRow e (a, f, l, c, s, k, m, t, n, R, d)) ok bad := by
  unfold sRow
  dsimp only
  by_cases q : a < m
  · rw [if_pos q]
    exact h1 q
  · rw [if_neg q]
    by_cases q2 : 90 ≤ n
    · rw [if_pos q2]
      exact h2 q q2
    · rw [if_neg q2]
      exact h3 q (by omega)
theorem sK_n {b : Nat → Int} {z : Nat} {B : Nat → Int32} (hb : bOk b z B) (sg : Bool) (t : Nat) : sK (sNum b z sg 5 t 0) (fun q => -2147483648 ≤ q.1 ∧ q.1 ≤ 2147483647 ∧ (sg = false → 0 ≤ q.1) ∧ t < q.2 ∧ q.2 ≤ z) (fun _ => True) := by
  cases e : sNum b z sg 5 t 0 with
  | inl c => exact trivial
  | inr q => exact sNum_ok hb 5 t 0 (by omega) e
theorem s_ext_ok {b : Nat → Int} {z : Nat} {B : Nat → Int32} (hb : bOk b z B) {start a f l c s k m : Int} (hs : start = 0 ∨ start = 1) {t t0 n : Nat} {R : Nat → Int32} (hS : mOk z (a, f, l, c, s, k, m, t, n, R, false)) : sK (sExt b z start (a, f, l, c, s, k, m, t0, n, R, false) t) (fun S => mOk z S ∧ t ≤ sT S) (fun _ => True) := by
  obtain ⟨a0, a1, f0, f1, i0, i1, c0, c1, s0, s1, k0, k1, m0, m1, ht, hn, hd⟩ := hS
  have nf : ∀ {P : Prop}, (false = true → P) := fun q => Bool.noConfusion q
  unfold sExt
  rw [sK_bind]
  refine sK_mono (sK_n hb false t) (fun q _ hq => ?_) (fun _ _ _ => trivial)
  obtain ⟨v, t1⟩ := q
  obtain ⟨v1, v2, v3, v4, v5⟩ := hq
  have v3 := v3 rfl
  dsimp only at v1 v2 v3 v4 v5 ⊢
  by_cases c1 : (z : Int) - t1 < v
  · rw [if_pos c1]
    exact trivial
  rw [if_neg c1]
  by_cases c2 : v = 0
  · rw [if_pos c2]
    exact trivial
  rw [if_neg c2]
  obtain ⟨-, b0, b1⟩ := hb.2 t1 (by omega)
  by_cases c4 : b t1 = 0
  · rw [if_pos c4]
    exact trivial
  rw [if_neg c4]
  by_cases c5 : b t1 = 1
  · rw [if_pos c5]
    by_cases c6 : v = 1
    · rw [if_neg (fun e => e c6), sK_bind]
      refine uRow (fun _ => trivial) (fun _ _ => trivial) (fun q q2 => ?_)
      refine ⟨⟨by omega, by omega, by omega, by omega, by omega, by omega, by omega, by omega, by omega, by omega, by omega, by omega, by omega, by omega, by omega, by omega, fun _ => Or.inr ?_⟩, by show t ≤ t1 + 1; omega⟩
      show upd _ (7 * n + 6) (iI 1) (7 * (n + 1) - 1) = iI 1
      unfold upd
      rw [if_pos (by omega)]
    · rw [if_pos c6]
      exact trivial
  rw [if_neg c5]
  by_cases c7 : b t1 = 2
  · rw [if_pos c7]
    by_cases c6 : v = 5
    · rw [if_neg (fun e => e c6)]
      have w1 := (hb.2 (t1 + 1) (by omega)).2
      have w2 := (hb.2 (t1 + 1 + 1) (by omega)).2
      have w3 := (hb.2 (t1 + 1 + 2) (by omega)).2
      have w4 := (hb.2 (t1 + 1 + 3) (by omega)).2
      have hx : 0 ≤ sFix4 b (t1 + 1) := by
        unfold sFix4
        omega
      exact uAddr (fun q => ⟨⟨hx, q, f0, f1, i0, i1, c0, by omega, s0, s1, k0, k1, m0, m1, by omega, hn, nf⟩, by show t ≤ t1 + 5; omega⟩) (fun _ => trivial)
    · rw [if_pos c6]
      exact trivial
  rw [if_neg c7]
  exact ⟨⟨a0, a1, f0, f1, i0, i1, c0, by omega, s0, s1, k0, k1, m0, m1, by omega, hn, nf⟩, by show t ≤ t1 + v.toNat; omega⟩
theorem s_ins_ok {b : Nat → Int} {z : Nat} {B : Nat → Int32} (hb : bOk b z B) {base range low start : Int} (hH : hOk base range low start) {a f l c s k m cd : Int} {t t0 n : Nat} {R : Nat → Int32} (hS : mOk z (a, f, l, c, s, k, m, t, n, R, false)) (cd0 : 0 ≤ cd) (cd1 : cd < 256) : sK (sIns b z base range low start cd (a, f, l, c, s, k, m, t0, n, R, false) t) (fun S => mOk z S ∧ t ≤ sT S) (fun _ => True) := by
  have hS' := hS
  obtain ⟨a0, a1, f0, f1, i0, i1, c0, c1, s0, s1, k0, k1, m0, m1, ht, hn, hd⟩ := hS'
  obtain ⟨e1, e2, e3, e4, e5, e6, e7, e8⟩ := hH
  have nf : ∀ {P : Prop}, (false = true → P) := fun q => Bool.noConfusion q
  unfold sIns
  by_cases q : base ≤ cd
  · rw [if_pos q]
    unfold sSpec
    rw [sK_bind]
    have r0 : 0 ≤ (cd - base) % range := Int.emod_nonneg _ (by omega)
    have d0 : 0 ≤ (cd - base) / range := Int.ediv_nonneg (by omega) (by omega)
    refine uLine (fun q1 => ?_) (fun _ => trivial)
    rw [sK_bind]
    refine uAddr (fun q2 => ?_) (fun _ => trivial)
    refine uRow (fun _ => trivial) (fun _ _ => trivial) (fun q3 q4 => ?_)
    exact ⟨⟨by dsimp only; omega, q2, f0, f1, q1.1, q1.2, c0, c1, s0, s1, by omega, by omega, by dsimp only; omega, q2, ht, by omega, nf⟩, Nat.le_refl _⟩
  rw [if_neg q]
  by_cases q0 : cd = 0
  · rw [if_pos q0]
    exact s_ext_ok hb e8 hS
  rw [if_neg q0]
  by_cases q0 : cd = 1
  · rw [if_pos q0]
    refine uRow (fun _ => trivial) (fun _ _ => trivial) (fun q3 q4 => ?_)
    exact ⟨⟨a0, a1, f0, f1, i0, i1, c0, c1, s0, s1, by omega, by omega, a0, a1, ht, by omega, nf⟩, Nat.le_refl _⟩
  rw [if_neg q0]
  by_cases q0 : cd = 2
  · rw [if_pos q0, sK_bind]
    refine sK_mono (sK_n hb false t) (fun q _ hq => ?_) (fun _ _ _ => trivial)
    obtain ⟨v1, v2, v3, v4, v5⟩ := hq
    have v3 := v3 rfl
    exact uAddr (fun q2 => ⟨⟨by dsimp only; omega, q2, f0, f1, i0, i1, c0, c1, s0, s1, k0, k1, m0, m1, v5, hn, nf⟩, Nat.le_of_lt v4⟩) (fun _ => trivial)
  rw [if_neg q0]
  by_cases q0 : cd = 3
  · rw [if_pos q0, sK_bind]
    refine sK_mono (sK_n hb true t) (fun q _ hq => ?_) (fun _ _ _ => trivial)
    obtain ⟨v1, v2, v3, v4, v5⟩ := hq
    exact uLine (fun q2 => ⟨⟨a0, a1, f0, f1, q2.1, q2.2, c0, c1, s0, s1, k0, k1, m0, m1, v5, hn, nf⟩, Nat.le_of_lt v4⟩) (fun _ => trivial)
  rw [if_neg q0]
  by_cases q0 : cd = 4
  · rw [if_pos q0, sK_bind]
    refine sK_mono (sK_n hb false t) (fun q _ hq => ?_) (fun _ _ _ => trivial)
    obtain ⟨v1, v2, v3, v4, v5⟩ := hq
    exact ⟨⟨a0, a1, v3 rfl, v2, i0, i1, c0, c1, s0, s1, k0, k1, m0, m1, v5, hn, nf⟩, Nat.le_of_lt v4⟩
  rw [if_neg q0]
  by_cases q0 : cd = 5
  · rw [if_pos q0, sK_bind]
    refine sK_mono (sK_n hb false t) (fun q _ hq => ?_) (fun _ _ _ => trivial)
    obtain ⟨v1, v2, v3, v4, v5⟩ := hq
    exact ⟨⟨a0, a1, f0, f1, i0, i1, v3 rfl, v2, s0, s1, k0, k1, m0, m1, v5, hn, nf⟩, Nat.le_of_lt v4⟩
  rw [if_neg q0]
  by_cases q0 : cd = 6
  · rw [if_pos q0]
    exact ⟨⟨a0, a1, f0, f1, i0, i1, c0, c1, by omega, by omega, k0, k1, m0, m1, ht, hn, nf⟩, Nat.le_refl _⟩
  rw [if_neg q0]
  by_cases q0 : cd = 7
  · rw [if_pos q0]
    exact ⟨⟨a0, a1, f0, f1, i0, i1, c0, c1, s0, s1, by omega, by omega, m0, m1, ht, hn, nf⟩, Nat.le_refl _⟩
  rw [if_neg q0]
  have hq1 : 0 ≤ (255 - base) / range := Int.ediv_nonneg (by omega) (by omega)
  by_cases q0 : cd = 8
  · rw [if_pos q0]
    exact uAddr (fun q2 => ⟨⟨by dsimp only; omega, q2, f0, f1, i0, i1, c0, c1, s0, s1, k0, k1, m0, m1, ht, hn, nf⟩, Nat.le_refl _⟩) (fun _ => trivial)
  rw [if_neg q0]
  by_cases q0 : cd = 9
  · rw [if_pos q0]
    by_cases c8 : z < t + 2
    · rw [if_pos c8]
      exact trivial
    · rw [if_neg c8]
      have w1 := (hb.2 t (by omega)).2
      have w2 := (hb.2 (t + 1) (by omega)).2
      exact uAddr (fun q2 => ⟨⟨by dsimp only; omega, q2, f0, f1, i0, i1, c0, c1, s0, s1, k0, k1, m0, m1, by omega, hn, nf⟩, by show t ≤ t + 2; omega⟩) (fun _ => trivial)
  rw [if_neg q0, sK_bind]
  refine sK_mono (sK_n hb false t) (fun q _ hq => ?_) (fun _ _ _ => trivial)
  obtain ⟨v1, v2, v3, v4, v5⟩ := hq
  exact ⟨⟨a0, a1, f0, f1, i0, i1, c0, c1, s0, s1, k0, k1, m0, m1, v5, hn, nf⟩, Nat.le_of_lt v4⟩
theorem s_loop_ok {b : Nat → Int} {z : Nat} {B : Nat → Int32} (hb : bOk b z B) {base range low start : Int} (hH : hOk base range low start) : ∀ (j : Nat) (S : MS), mOk z S → sK (sLoop b z base range low start j S) (fun S => mOk z S) (fun _ => True) := by
  intro j
  induction j with
  | zero =>
    intro S hS
    exact hS
  | succ j ih =>
    intro S hS
    unfold sLoop
    by_cases q : z ≤ sT S
    · rw [if_pos q]
      exact hS
    · rw [if_neg q, sK_bind]
      obtain ⟨a, f, l, c, s, k, m, t, n, R, d⟩ := S
      have q : ¬ z ≤ t := q
      obtain ⟨a0, a1, f0, f1, i0, i1, c0, c1, s0, s1, k0, k1, m0, m1, ht, hn, hd⟩ := hS
      obtain ⟨-, b0, b1⟩ := hb.2 t (by omega)
      have h := s_ins_ok (t := t + 1) (t0 := t) hb hH (R := R) ⟨a0, a1, f0, f1, i0, i1, c0, c1, s0, s1, k0, k1, m0, m1, by omega, hn, fun q => Bool.noConfusion q⟩ b0 b1
      exact sK_mono h (fun S' _ hS' => ih S' hS'.1) (fun _ _ _ => trivial)
theorem p_loop {b : Nat → Int} {z : Nat} {B : Nat → Int32} (hb : bOk b z B) {base range low start : Int} (hH : hOk base range low start) {post : M11 → Prop} {postX : Nat × M11 → Prop} : ∀ (j : Nat) (a f l c s k m : Int) (t n : Nat) (R g : Nat → Int32) (d : Bool) (dn : Nat), mOk z (a, f, l, c, s, k, m, t, n, R, d) → ag (7 * n) g R → z ≤ t + j → dn ≤ t →
    sK (sLoop b z base range low start j (a, f, l, c, s, k, m, t, n, R, d)) (fun S => (sE S = true → mPost post S) ∧ (sE S = false → ∀ u, postX (6, u))) (fun c => ∀ u, postX (c, u)) →
    wl_Ma_runAll_6 (iI base) (iI range) (iI low) (iI start) (iI ((255 - base) / range)) (iI z) B post postX (j + 1) g (iI (dI d)) (iI a) (iI f) (iI l) (iI c) (iI s) (iI k) (iI m) (iI t) (iI n) (iI dn) := by
  have hz := hb.1
  have fin : ∀ (a f l c s k m : Int) (t n : Nat) (R g : Nat → Int32) (d : Bool), ag (7 * n) g R → (d = true → mPost post (a, f, l, c, s, k, m, t, n, R, d)) → (d = false → ∀ u, postX (6, u)) →
      (¬ iI (dI d) = 0 → post (iI a, iI f, iI l, iI c, iI s, iI k, iI m, iI (dI d), iI t, iI n, g)) ∧ (iI (dI d) = 0 → postX (6, (iI a, iI f, iI l, iI c, iI s, iI k, iI m, iI (dI d), iI t, iI n, g))) := by
    intro a f l c s k m t n R g d hg h1 h2
    cases d with
    | true => exact ⟨fun _ => mAt (h1 rfl) hg, fun q => absurd q (by decide)⟩
    | false => exact ⟨fun q => absurd (by decide) q, fun _ => h2 rfl _⟩
  intro j
  induction j with
  | zero =>
    intro a f l c s k m t n R g d dn hS hg hj hdn h
    obtain ⟨a0, a1, f0, f1, i0, i1, c0, c1, s0, s1, k0, k1, m0, m1, ht, hn, hd⟩ := hS
    obtain ⟨h1, h2⟩ := sK_r h
    unfold wl_Ma_runAll_6
    refine br_le 600 dn (fun _ => fin a f l c s k m t n R g d hg h1 h2) (fun _ => ?_)
    unfold wp_Re_bytesLeft
    refine st_v (iI ((z : Int) - t)) (sb z t) ?_
    exact br_le ((z : Int) - t) 0 (fun _ => fin a f l c s k m t n R g d hg h1 h2) (fun q => by omega)
  | succ j ih =>
    intro a f l c s k m t n R g d dn hS hg hj hdn h
    obtain ⟨a0, a1, f0, f1, i0, i1, c0, c1, s0, s1, k0, k1, m0, m1, ht, hn, hd⟩ := hS
    unfold sLoop at h
    unfold wl_Ma_runAll_6
    by_cases q : z ≤ t
    · have h := sK_r ((if_pos (c := z ≤ sT (a, f, l, c, s, k, m, t, n, R, d)) q) ▸ h)
      obtain ⟨h1, h2⟩ := h
      refine br_le 600 dn (fun _ => fin a f l c s k m t n R g d hg h1 h2) (fun _ => ?_)
      unfold wp_Re_bytesLeft
      refine st_v (iI ((z : Int) - t)) (sb z t) ?_
      exact br_le ((z : Int) - t) 0 (fun _ => fin a f l c s k m t n R g d hg h1 h2) (fun q => by omega)
    · rw [if_neg (show ¬ z ≤ sT (a, f, l, c, s, k, m, t, n, R, d) from q), sK_bind] at h
      refine br_le 600 dn (fun q => by omega) (fun _ => ?_)
      unfold wp_Re_bytesLeft
      refine st_v (iI ((z : Int) - t)) (sb z t) ?_
      refine br_le ((z : Int) - t) 0 (fun q => by omega) (fun _ => ?_)
      refine p_next hb t (fun q2 => ?_) (fun q2 => by omega) (by omega)
      obtain ⟨-, b0, b1⟩ := hb.2 t q2
      have hS' : mOk z (a, f, l, c, s, k, m, t + 1, n, R, false) := ⟨a0, a1, f0, f1, i0, i1, c0, c1, s0, s1, k0, k1, m0, m1, by omega, hn, fun q => Bool.noConfusion q⟩
      have lf : (0 : Int32) = iI (dI false) := by decide
      rw [lf]
      refine p_ins hb hH hS' hg b0 b1 (t0 := t) (sK_mono h (fun S' e hS2 => ?_) (fun c _ q u => q _))
      have ok := sK_e (s_ins_ok (t0 := t) hb hH hS' b0 b1) e
      obtain ⟨a', f', l', c', s', k', m', t', n', R', d'⟩ := S'
      intro g' hg'
      refine st_v (iI ((dn + 1 : Nat) : Int)) (ad dn 1) ?_
      have ok2 : t + 1 ≤ t' := ok.2
      exact ih a' f' l' c' s' k' m' t' n' R' g' d' (dn + 1) ok.1 hg' (by omega) (by omega) hS2
theorem p_Lp_run {b : Nat → Int} {z : Nat} {B : Nat → Int32} (hb : bOk b z B) {base range low start : Int} (hH : hOk base range low start) {rs : Int32} {rv g5 : Nat → Int32} {post : Int32 → (Int32 × (Nat → Int32) × Int32 × (Nat → Int32)) → Prop} {postX : Nat × (Int32 × (Nat → Int32) × Int32 × (Nat → Int32)) → Prop}
    (h : sK (sRun b z base range low start) (fun q => ∀ g, ag (7 * q.1) g q.2 → post (iI q.1) (iI q.1, g, rs, rv)) (fun c => ∀ u v, postX (c, (rs, rv, u, v)))) : wp_Lp_run (iI base) (iI range) (iI low) (iI start) (iI ((255 - base) / range)) (iI z) B rs rv g5 post postX := by
  have hz := hb.1
  unfold sRun at h
  rw [sK_bind] at h
  unfold wp_Lp_run wp_Ma_init wp_Re_init wp_Ma_runAll wp_Ma_beginAnew
  have hH' := hH
  obtain ⟨e1, e2, e3, e4, e5, e6, e7, e8⟩ := hH'
  refine ⟨601, ?_⟩
  have q := p_loop hb hH 600 0 1 1 0 start 0 0 0 0 (fun _ => 0) g5 true 0 (post := fun u6 => post u6.2.2.2.2.2.2.2.2.2.1 (u6.2.2.2.2.2.2.2.2.2.1, u6.2.2.2.2.2.2.2.2.2.2, rs, rv)) (postX := fun u6 => postX (u6.1, (rs, rv, u6.2.2.2.2.2.2.2.2.2.2.1, u6.2.2.2.2.2.2.2.2.2.2.2)))
    ⟨by omega, by omega, by omega, by omega, by omega, by omega, by omega, by omega, by omega, by omega, by omega, by omega, by omega, by omega, by omega, by omega, fun _ => Or.inl rfl⟩ (fun q hq => absurd hq (by omega)) (by omega) (by omega)
    (sK_mono h (fun S _ hS => ⟨fun hE => by
      rw [if_pos hE] at hS
      obtain ⟨a', f', l', c', s', k', m', t', n', R', d'⟩ := S
      intro g' hg'
      exact sK_r hS g' hg', fun hE u => by
      rw [if_neg (by rw [hE]; decide)] at hS
      exact sK_l hS _ _⟩) (fun c _ q u => q _ _))
  dsimp only
  rw [l0, l1]
  exact q
