/-! the machine -/
theorem sK_r {α : Type} {x : α} {ok : α → Prop} {bad : Nat → Prop} (h : sK (.inr x) ok bad) : ok x := h
theorem sK_l {α : Type} {c : Nat} {ok : α → Prop} {bad : Nat → Prop} (h : sK (.inl c) ok bad) : bad c := h
theorem sK_e {α : Type} {r : Nat ⊕ α} {x : α} {ok : α → Prop} {bad : Nat → Prop} (h : sK r ok bad) (e : r = .inr x) : ok x := by
  subst e
  exact h
theorem l0 : (0 : Int32) = iI 0 := by decide
theorem l1 : (1 : Int32) = iI 1 := by decide
def ag (N : Nat) (g R : Nat → Int32) : Prop := ∀ q, q < N → g q = R q
theorem ag_up {N : Nat} {g R : Nat → Int32} {v : Int32} (h : ag N g R) : ag (N + 1) (upd g N v) (upd R N v) := by
  intro q hq
  unfold upd
  by_cases e : q = N
  · rw [if_pos e, if_pos e]
  · rw [if_neg e, if_neg e]
    exact h q (by omega)
theorem ag_row {n : Nat} {g R : Nat → Int32} {a f l c s k e : Int} (h : ag (7 * n) g R) : ag (7 * (n + 1)) (sRow7 g n a f l c s k e) (sRow7 R n a f l c s k e) := by
  have h7 : 7 * (n + 1) = 7 * n + 6 + 1 := by omega
  rw [h7]
  exact ag_up (ag_up (ag_up (ag_up (ag_up (ag_up (ag_up h))))))
def dI : Bool → Int
  | true => 1
  | false => 0
def hOk (base range low start : Int) : Prop := 10 ≤ base ∧ base ≤ 20 ∧ 1 ≤ range ∧ range ≤ 30 ∧ -20 ≤ low ∧ low ≤ 0 ∧ 0 < low + range ∧ (start = 0 ∨ start = 1)
def mOk (z : Nat) : MS → Prop
  | (a, f, l, c, s, k, m, t, n, R, d) => 0 ≤ a ∧ a ≤ 2147483647 ∧ 0 ≤ f ∧ f ≤ 2147483647 ∧ 0 ≤ l ∧ l ≤ 2147483647 ∧ 0 ≤ c ∧ c ≤ 2147483647 ∧ 0 ≤ s ∧ s ≤ 1 ∧ 0 ≤ k ∧ k ≤ 1 ∧ 0 ≤ m ∧ m ≤ 2147483647 ∧ t ≤ z ∧ n ≤ 90 ∧ (d = true → n = 0 ∨ R (7 * n - 1) = iI 1)
abbrev M11 := Int32 × Int32 × Int32 × Int32 × Int32 × Int32 × Int32 × Int32 × Int32 × Int32 × (Nat → Int32)
def mPost (post : M11 → Prop) : MS → Prop
  | (a, f, l, c, s, k, m, t, n, R, d) => ∀ g, ag (7 * n) g R → post (iI a, iI f, iI l, iI c, iI s, iI k, iI m, iI (dI d), iI t, iI n, g)
theorem mAt {post : M11 → Prop} {a f l c s k m : Int} {t n : Nat} {R g : Nat → Int32} {d : Bool} (h : mPost post (a, f, l, c, s, k, m, t, n, R, d)) (hg : ag (7 * n) g R) : post (iI a, iI f, iI l, iI c, iI s, iI k, iI m, iI (dI d), iI t, iI n, g) := h g hg
theorem kLine {v a f l c s k m : Int} {t n : Nat} {R : Nat → Int32} {d : Bool} {ok : MS → Prop} {bad : Nat → Prop} (h : sK (sLine v (a, f, l, c, s, k, m, t, n, R, d)) ok bad) : (0 ≤ l + v ∧ l + v ≤ 2147483647 → ok (a, f, l + v, c, s, k, m, t, n, R, d)) ∧ (¬ (0 ≤ l + v ∧ l + v ≤ 2147483647) → bad 3) := by
  unfold sLine at h
  dsimp only at h
  refine ⟨fun q => ?_, fun q => ?_⟩
  · rw [if_neg (by omega)] at h
    exact h
  · rw [if_pos (by omega)] at h
    exact h
theorem kAddr {w a f l c s k m : Int} {t n : Nat} {R : Nat → Int32} {d : Bool} {ok : MS → Prop} {bad : Nat → Prop} (h : sK (sAddr w (a, f, l, c, s, k, m, t, n, R, d)) ok bad) : (w ≤ 2147483647 → ok (w, f, l, c, s, k, m, t, n, R, d)) ∧ (2147483647 < w → bad 3) := by
  unfold sAddr at h
  dsimp only at h
  refine ⟨fun q => ?_, fun q => ?_⟩
  · rw [if_neg (by omega)] at h
    exact h
  · rw [if_pos q] at h
    exact h
theorem kRow {e a f l c s k m : Int} {t n : Nat} {R : Nat → Int32} {d : Bool} {ok : MS → Prop} {bad : Nat → Prop} (h : sK (sRow e (a, f, l, c, s, k, m, t, n, R, d)) ok bad) : (a < m → bad 4) ∧ (¬ a < m → 90 ≤ n → bad 5) ∧ (¬ a < m → n < 90 → ok (a, f, l, c, s, 0, a, t, n + 1, sRow7 R n a f l c s k e, d)) := by
  unfold sRow at h
  dsimp only at h
  refine ⟨fun q => ?_, fun q q2 => ?_, fun q q2 => ?_⟩
  · rw [if_pos q] at h
    exact h
  · rw [if_neg q, if_pos q2] at h
    exact h
  · rw [if_neg q, if_neg (by omega)] at h
    exact h
theorem p_row {a f l c s k m e : Int} {n : Nat} {g R : Nat → Int32} {x : Int32} {post : (Int32 × Int32 × (Nat → Int32)) → Prop} {postX : Nat × (Int32 × Int32 × (Nat → Int32)) → Prop} (a0 : 0 ≤ a) (a1 : a ≤ 2147483647) (m0 : 0 ≤ m) (m1 : m ≤ 2147483647) (hn : n ≤ 90) (hg : ag (7 * n) g R)
    (h1 : ¬ a < m → n < 90 → ∀ g', ag (7 * (n + 1)) g' (sRow7 R n a f l c s k e) → post (iI a, iI ((n + 1 : Nat) : Int), g')) (h2 : a < m → ∀ u, postX (4, u)) (h3 : ¬ a < m → 90 ≤ n → ∀ u, postX (5, u)) (hx : x = iI e := by first | rfl | decide) : wp_Ma_appendRow (iI a) (iI f) (iI l) (iI c) (iI s) (iI k) (iI m) (iI n) g x post postX := by
  subst hx
  unfold wp_Ma_appendRow
  refine br_le m a (fun q => ?_) (fun q => h2 (by omega) _)
  refine br_lt n 90 (fun q2 => ?_) (fun q2 => h3 (by omega) (by omega) _)
  refine p_Ro_set n 0 (by omega) ?_
  refine p_Ro_set n 1 (by omega) ?_
  refine p_Ro_set n 2 (by omega) ?_
  refine p_Ro_set n 3 (by omega) ?_
  refine p_Ro_set n 4 (by omega) ?_
  refine p_Ro_set n 5 (by omega) ?_
  refine p_Ro_set n 6 (by omega) ?_
  exact st_v (iI ((n + 1 : Nat) : Int)) (ad n 1) (h1 (by omega) (by omega) _ (ag_row hg))
theorem p_mk {a f l c s k m : Int} {n : Nat} {g R : Nat → Int32} {post : (Int32 × Int32 × Int32 × (Nat → Int32)) → Prop} {postX : Nat × (Int32 × Int32 × Int32 × (Nat → Int32)) → Prop} (a0 : 0 ≤ a) (a1 : a ≤ 2147483647) (m0 : 0 ≤ m) (m1 : m ≤ 2147483647) (hn : n ≤ 90) (hg : ag (7 * n) g R)
    (h1 : ¬ a < m → n < 90 → ∀ g', ag (7 * (n + 1)) g' (sRow7 R n a f l c s k 0) → post (iI 0, iI a, iI ((n + 1 : Nat) : Int), g')) (h2 : a < m → ∀ u, postX (4, u)) (h3 : ¬ a < m → 90 ≤ n → ∀ u, postX (5, u)) : wp_Ma_makeRow (iI a) (iI f) (iI l) (iI c) (iI s) (iI k) (iI m) (iI n) g post postX := by
  unfold wp_Ma_makeRow
  refine p_row (e := 0) a0 a1 m0 m1 hn hg (fun q1 q2 g' hg' => ?_) (fun q u => h2 q _) (fun q q' u => h3 q q' _)
  show post (0, iI a, iI ((n + 1 : Nat) : Int), g')
  rw [l0]
  exact h1 q1 q2 g' hg'
theorem p_line {l v : Int} {x : Int32} {post : Int32 → Prop} {postX : Nat × Int32 → Prop} (h0 : 0 ≤ l) (hl : l ≤ 2147483647) (v0 : -2147483648 ≤ v) (v1 : v ≤ 2147483647) (h1 : 0 ≤ l + v ∧ l + v ≤ 2147483647 → post (iI (l + v))) (h2 : ¬ (0 ≤ l + v ∧ l + v ≤ 2147483647) → ∀ u, postX (3, u)) (hx : x = iI v := by first | rfl | decide) : wp_Ma_addToLine (iI l) x post postX := by
  subst hx
  unfold wp_Ma_addToLine
  refine st_v (lI l) iI_l ?_
  refine st_v (lI v) iI_l ?_
  refine st_v (lI (l + v)) (lI_add l v) ?_
  refine lc_lt (l + v) 0 (fun q => h2 (by omega) _) (fun q => ?_)
  refine lc_le (l + v) 2147483647 (fun q2 => ?_) (fun q2 => h2 (by omega) _)
  exact st_v (iI (l + v)) (lI_i _) (h1 ⟨q, q2⟩)
theorem p_set {w : Int} {v0 : Int32} {post : Int32 → Prop} {postX : Nat × Int32 → Prop} (b1 : -9000000000000000000 ≤ w) (b2 : w < 9000000000000000000) (h1 : w ≤ 2147483647 → post (iI w)) (h2 : 2147483647 < w → ∀ u, postX (3, u)) : wp_Ma_setAddress v0 (lI w) post postX := by
  unfold wp_Ma_setAddress
  refine lc_le w 2147483647 (fun q2 => ?_) (fun q2 => h2 (by omega) _)
  exact st_v (iI w) (lI_i _) (h1 q2)
theorem p_addA {a w : Int} {post : Int32 → Prop} {postX : Nat × Int32 → Prop} (a0 : 0 ≤ a) (a1 : a ≤ 2147483647) (b1 : -8000000000000000000 ≤ w) (b2 : w < 8000000000000000000) (h1 : a + w ≤ 2147483647 → post (iI (a + w))) (h2 : 2147483647 < a + w → ∀ u, postX (3, u)) : wp_Ma_addToAddress (iI a) (lI w) post postX := by
  unfold wp_Ma_addToAddress
  refine st_v (lI a) iI_l ?_
  refine st_v (lI (a + w)) (lI_add a w) ?_
  exact p_set (by omega) (by omega) h1 (fun q u => h2 q _)
theorem p_ext {b : Nat → Int} {z : Nat} {B : Nat → Int32} (hb : bOk b z B) {start a f l c s k m : Int} {t t0 n : Nat} {R g : Nat → Int32} {d : Bool} {post : M11 → Prop} {postX : Nat × M11 → Prop} (hS : mOk z (a, f, l, c, s, k, m, t, n, R, d)) (hg : ag (7 * n) g R)
    (h : sK (sExt b z start (a, f, l, c, s, k, m, t0, n, R, d) t) (mPost post) (fun c => ∀ u, postX (c, u))) : wp_Ma_doExtended (iI a) (iI f) (iI l) (iI c) (iI s) (iI k) (iI m) (iI (dI d)) (iI start) (iI t) (iI z) B (iI n) g post postX := by
  have hz := hb.1
  obtain ⟨a0, a1, f0, f1, i0, i1, c0, c1, s0, s1, k0, k1, m0, m1, ht, hn, hd⟩ := hS
  unfold wp_Ma_doExtended
  unfold sExt at h
  rw [sK_bind] at h
  refine p_uns hb ht (sK_mono h (fun q e hq => ?_) (fun c _ q u => q _))
  obtain ⟨v1, v2, v3, v4, v5⟩ := sNum_ok hb 5 t 0 (by omega) e
  have v3 := v3 rfl
  obtain ⟨v, t1⟩ := q
  dsimp only at v1 v2 v3 v4 v5 hq ⊢
  unfold wp_Re_bytesLeft
  refine st_v (iI ((z : Int) - t1)) (sb z t1) ?_
  refine br_le v ((z : Int) - t1) (fun c1 => ?_) (fun c1 => ?_)
  · rw [if_neg (by omega)] at hq
    refine br_ne v 0 (fun c2 => ?_) (fun c2 => ?_)
    · rw [if_neg c2] at hq
      refine p_next hb t1 (fun c3 => ?_) (fun c3 => by omega) (by omega)
      obtain ⟨-, b0, b1⟩ := hb.2 t1 c3
      refine br_eq (b t1) 0 (fun c4 => ?_) (fun c4 => ?_)
      · rw [if_pos c4] at hq
        exact hq _
      · rw [if_neg c4] at hq
        refine br_eq (b t1) 1 (fun c5 => ?_) (fun c5 => ?_)
        · rw [if_pos c5] at hq
          unfold wp_Ma_needLength
          refine br_eq v 1 (fun c6 => ?_) (fun c6 => ?_)
          · rw [if_neg (fun e => e c6), sK_bind] at hq
            obtain ⟨k1, k2, k3⟩ := kRow hq
            refine p_row (e := 1) a0 a1 m0 m1 hn hg (fun q1 q2 g' hg' => ?_) (fun q u => k1 q _) (fun q q' u => k2 q q' _)
            unfold wp_Ma_beginAnew
            show post (0, 1, 1, 0, iI start, 0, 0, 1, iI ((t1 + 1 : Nat) : Int), iI ((n + 1 : Nat) : Int), g')
            rw [l0, l1]
            exact mAt (sK_r (k3 q1 q2)) hg'
          · rw [if_pos c6] at hq
            exact hq _
        · rw [if_neg c5] at hq
          refine br_eq (b t1) 2 (fun c7 => ?_) (fun c7 => ?_)
          · rw [if_pos c7] at hq
            unfold wp_Ma_needLength
            refine br_eq v 5 (fun c6 => ?_) (fun c6 => ?_)
            · rw [if_neg (fun e => e c6)] at hq
              refine p_fix hb 4 (by omega) (by omega) (by omega) (fun c8 => ?_) (fun c8 => by omega)
              rw [sFix_4]
              obtain ⟨k1, k2⟩ := kAddr hq
              have w1 := (hb.2 (t1 + 1) (by omega)).2
              have w2 := (hb.2 (t1 + 1 + 1) (by omega)).2
              have w3 := (hb.2 (t1 + 1 + 2) (by omega)).2
              have w4 := (hb.2 (t1 + 1 + 3) (by omega)).2
              have hx : 0 ≤ sFix4 b (t1 + 1) ∧ sFix4 b (t1 + 1) < 4294967296 := by
                unfold sFix4
                omega
              exact p_set (by omega) (by omega) (fun q => mAt (k1 q) hg) (fun q u => k2 q _)
            · rw [if_pos c6] at hq
              exact hq _
          · rw [if_neg c7] at hq
            refine st_v (iI (v - 1)) (sb v 1) ?_
            unfold wp_Re_skip
            have e9 : ((t1 + 1 : Nat) : Int) + (v - 1) = ((t1 + v.toNat : Nat) : Int) := by omega
            refine st_v (iI ((t1 + v.toNat : Nat) : Int)) (by rw [iI_add, e9]) ?_
            exact mAt hq hg
    · rw [if_pos c2] at hq
      exact hq _
  · rw [if_pos (by omega)] at hq
    exact hq _
theorem p_ins {b : Nat → Int} {z : Nat} {B : Nat → Int32} (hb : bOk b z B) {base range low start : Int} (hH : hOk base range low start) {a f l c s k m cd : Int} {t t0 n : Nat} {R g : Nat → Int32} {d : Bool} {post : M11 → Prop} {postX : Nat × M11 → Prop} (hS : mOk z (a, f, l, c, s, k, m, t, n, R, d)) (hg : ag (7 * n) g R) (cd0 : 0 ≤ cd) (cd1 : cd < 256)
    (h : sK (sIns b z base range low start cd (a, f, l, c, s, k, m, t0, n, R, d) t) (mPost post) (fun c => ∀ u, postX (c, u))) : wp_Ma_doInstruction (iI a) (iI f) (iI l) (iI c) (iI s) (iI k) (iI m) (iI (dI d)) (iI base) (iI range) (iI low) (iI start) (iI ((255 - base) / range)) (iI t) (iI z) B (iI n) g (iI cd) post postX := by
  have hz := hb.1
  have hS' := hS
  obtain ⟨a0, a1, f0, f1, i0, i1, c0, c1, s0, s1, k0, k1, m0, m1, ht, hn, hd⟩ := hS'
  obtain ⟨e1, e2, e3, e4, e5, e6, e7, e8⟩ := hH
  unfold wp_Ma_doInstruction
  unfold sIns at h
  refine br_lt cd base (fun q => ?_) (fun q => ?_)
  · rw [if_neg (by omega)] at h
    refine br_eq cd 0 (fun q0 => ?_) (fun q0 => ?_)
    · rw [if_pos q0] at h
      exact p_ext hb hS hg (sK_mono h (fun S _ q => q) (fun c _ q u => q _))
    rw [if_neg q0] at h
    refine br_eq cd 1 (fun q0 => ?_) (fun q0 => ?_)
    · rw [if_pos q0] at h
      obtain ⟨k1, k2, k3⟩ := kRow h
      exact p_mk a0 a1 m0 m1 hn hg (fun q1 q2 g' hg' => mAt (k3 q1 q2) hg') (fun q u => k1 q _) (fun q q' u => k2 q q' _)
    rw [if_neg q0] at h
    refine br_eq cd 2 (fun q0 => ?_) (fun q0 => ?_)
    · rw [if_pos q0, sK_bind] at h
      refine p_uns hb ht (sK_mono h (fun q e hq => ?_) (fun c _ q u => q _))
      obtain ⟨v1, v2, v3, v4, v5⟩ := sNum_ok hb 5 t 0 (by omega) e
      have v3 := v3 rfl
      obtain ⟨k1, k2⟩ := kAddr hq
      refine st_v (lI q.1) iI_l ?_
      exact p_addA a0 a1 (by omega) (by omega) (fun q => mAt (k1 q) hg) (fun q u => k2 q _)
    rw [if_neg q0] at h
    refine br_eq cd 3 (fun q0 => ?_) (fun q0 => ?_)
    · rw [if_pos q0, sK_bind] at h
      refine p_sig hb ht (sK_mono h (fun q e hq => ?_) (fun c _ q u => q _))
      obtain ⟨v1, v2, v3, v4, v5⟩ := sNum_ok hb 5 t 0 (by omega) e
      obtain ⟨k1, k2⟩ := kLine hq
      exact p_line i0 i1 v1 v2 (fun q => mAt (k1 q) hg) (fun q u => k2 q _)
    rw [if_neg q0] at h
    refine br_eq cd 4 (fun q0 => ?_) (fun q0 => ?_)
    · rw [if_pos q0, sK_bind] at h
      exact p_uns hb ht (sK_mono h (fun q e hq => mAt (sK_r hq) hg) (fun c _ q u => q _))
    rw [if_neg q0] at h
    refine br_eq cd 5 (fun q0 => ?_) (fun q0 => ?_)
    · rw [if_pos q0, sK_bind] at h
      exact p_uns hb ht (sK_mono h (fun q e hq => mAt (sK_r hq) hg) (fun c _ q u => q _))
    rw [if_neg q0] at h
    refine br_eq cd 6 (fun q0 => ?_) (fun q0 => ?_)
    · rw [if_pos q0] at h
      exact st_v (iI (1 - s)) (sb 1 s) (mAt (sK_r h) hg)
    rw [if_neg q0] at h
    refine br_eq cd 7 (fun q0 => ?_) (fun q0 => ?_)
    · rw [if_pos q0] at h
      rw [l1]
      exact mAt (sK_r h) hg
    rw [if_neg q0] at h
    have hq1 : 0 ≤ (255 - base) / range := Int.ediv_nonneg (by omega) (by omega)
    have hq2 : (255 - base) / range ≤ 255 - base := Int.ediv_le_self _ (by omega)
    refine br_eq cd 8 (fun q0 => ?_) (fun q0 => ?_)
    · rw [if_pos q0] at h
      obtain ⟨k1, k2⟩ := kAddr h
      refine st_v (lI ((255 - base) / range)) iI_l ?_
      exact p_addA a0 a1 (by omega) (by omega) (fun q => mAt (k1 q) hg) (fun q u => k2 q _)
    rw [if_neg q0] at h
    refine br_eq cd 9 (fun q0 => ?_) (fun q0 => ?_)
    · rw [if_pos q0] at h
      refine p_fix hb 2 (by omega) (by omega) ht (fun c8 => ?_) (fun c8 u => ?_)
      · rw [if_neg (by omega)] at h
        obtain ⟨k1, k2⟩ := kAddr h
        have w1 := (hb.2 t (by omega)).2
        have w2 := (hb.2 (t + 1) (by omega)).2
        rw [sFix_2]
        have e9 : a + (b t + b (t + 1) * 256) = a + b t + b (t + 1) * 256 := by omega
        refine p_addA a0 a1 (by omega) (by omega) (fun q => ?_) (fun q u => k2 (by dsimp only; omega) _)
        rw [e9] at q ⊢
        exact mAt (k1 q) hg
      · rw [if_pos (by omega)] at h
        exact h _
    rw [if_neg q0] at h
    rw [sK_bind] at h
    exact p_uns hb ht (sK_mono h (fun q e hq => mAt (sK_r hq) hg) (fun c _ q u => q _))
  · rw [if_pos (by omega)] at h
    refine st_v (iI (cd - base)) (sb cd base) ?_
    unfold wp_Ma_doSpecial
    unfold sSpec at h
    rw [sK_bind] at h
    obtain ⟨k1, k2⟩ := kLine h
    have r0 : 0 ≤ (cd - base) % range := Int.emod_nonneg _ (by omega)
    have r1 : (cd - base) % range < range := Int.emod_lt_of_pos _ (by omega)
    have d0 : 0 ≤ (cd - base) / range := Int.ediv_nonneg (by omega) (by omega)
    have d1 : (cd - base) / range ≤ cd - base := Int.ediv_le_self _ (by omega)
    have hr : ¬ iI range = 0 := by
      rw [l0, iI_eq]
      omega
    refine ⟨hr, ?_⟩
    refine st_v (iI ((cd - base) % range)) iI_rem ?_
    refine st_v (iI (low + (cd - base) % range)) (iI_add _ _) ?_
    refine p_line i0 i1 (by omega) (by omega) (fun q1 => ?_) (fun q1 u => k2 q1 _)
    have h := sK_bind.mp (k1 q1)
    dsimp only at h
    obtain ⟨k3, k4⟩ := kAddr h
    refine ⟨hr, ?_⟩
    refine st_v (iI ((cd - base) / range)) iI_div ?_
    refine st_v (lI ((cd - base) / range)) iI_l ?_
    refine p_addA a0 a1 (by omega) (by omega) (fun q2 => ?_) (fun q2 u => k4 q2 _)
    obtain ⟨k5, k6, k7⟩ := kRow (k3 q2)
    exact p_mk (by omega) q2 m0 m1 hn hg (fun q1 q2 g' hg' => mAt (k7 q1 q2) hg') (fun q u => k5 q _) (fun q q' u => k6 q q' _)
