/-! the other calls, class and reference -/
theorem p_hdr {p0 p1 p2 p3 : Int32} {post : Int32 → Unit → Prop} (a b c d : Int) (hp0 : p0 = iI a) (hp1 : p1 = iI b) (hp2 : p2 = iI c) (hp3 : p3 = iI d) (ra : -2147483648 ≤ a ∧ a < 2147483648) (rb : -2147483648 ≤ b ∧ b < 2147483648) (rc : -2147483648 ≤ c ∧ c < 2147483648) (rd : -2147483648 ≤ d ∧ d < 2147483648) (h1 : hOk a b c d → post 1 ()) (h2 : ¬ hOk a b c d → post 0 ()) : wp_Lp_isHeader p0 p1 p2 p3 post := by
  subst hp0 hp1 hp2 hp3
  unfold hOk at h1 h2
  unfold wp_Lp_isHeader
  refine br_lt a 10 (fun q => h2 (by omega)) (fun q => ?_)
  refine br_lt 20 a (fun q => h2 (by omega)) (fun q => ?_)
  refine br_lt b 1 (fun q => h2 (by omega)) (fun q => ?_)
  refine br_lt 30 b (fun q => h2 (by omega)) (fun q => ?_)
  refine br_lt c (-20) (fun q => h2 (by omega)) (fun q => ?_)
  refine br_lt 0 c (fun q => h2 (by omega)) (fun q => ?_)
  refine br_eq d 0 (fun q => ?_) (fun q => ?_)
  · refine st_v (iI (c + b)) (iI_add _ _) ?_
    exact br_le (c + b) 0 (fun q => h2 (by omega)) (fun q => h1 (by omega))
  · refine br_ne d 1 (fun q => h2 (by omega)) (fun q => ?_)
    refine st_v (iI (c + b)) (iI_add _ _) ?_
    exact br_le (c + b) 0 (fun q => h2 (by omega)) (fun q => h1 (by omega))
theorem p_Lp_header {p0 p1 p2 p3 B0 R0 L0 S0 T0 : Int32} {post : Int32 → (Int32 × Int32 × Int32 × Int32 × Int32) → Prop} (a b c d : Int) (hp0 : p0 = iI a) (hp1 : p1 = iI b) (hp2 : p2 = iI c) (hp3 : p3 = iI d) (ra : -2147483648 ≤ a ∧ a < 2147483648) (rb : -2147483648 ≤ b ∧ b < 2147483648) (rc : -2147483648 ≤ c ∧ c < 2147483648) (rd : -2147483648 ≤ d ∧ d < 2147483648) (h1 : hOk a b c d → post 1 (iI a, iI b, iI c, iI d, iI ((255 - a) / b))) (h2 : ¬ hOk a b c d → post 0 (B0, R0, L0, S0, T0)) : wp_Lp_header B0 R0 L0 S0 T0 p0 p1 p2 p3 post := by
  unfold wp_Lp_header
  refine p_hdr a b c d hp0 hp1 hp2 hp3 ra rb rc rd (fun q => ?_) (fun q => ?_)
  · refine ⟨fun _ => ?_, fun q => absurd q (by decide)⟩
    subst hp0 hp1 hp2 hp3
    have q' := q
    obtain ⟨e1, e2, e3, e4, e5, e6, e7, e8⟩ := q'
    unfold wp_He_init
    refine st_v (iI (255 - a)) (sb 255 a) ?_
    refine ⟨by rw [l0, iI_eq]; omega, ?_⟩
    exact st_v (iI ((255 - a) / b)) iI_div (h1 q)
  · exact ⟨fun q => absurd rfl q, fun _ => h2 q⟩
theorem q_Mo_header {p0 p1 p2 p3 B0 R0 L0 S0 : Int32} {post : Int32 → (Int32 × Int32 × Int32 × Int32 × Int32) → Prop} (a b c d : Int) (hp0 : p0 = iI a) (hp1 : p1 = iI b) (hp2 : p2 = iI c) (hp3 : p3 = iI d) (ra : -2147483648 ≤ a ∧ a < 2147483648) (rb : -2147483648 ≤ b ∧ b < 2147483648) (rc : -2147483648 ≤ c ∧ c < 2147483648) (rd : -2147483648 ≤ d ∧ d < 2147483648) (h1 : hOk a b c d → post 1 (iI a, iI b, iI c, iI d, 0)) (h2 : ¬ hOk a b c d → post 0 (B0, R0, L0, S0, 0)) : wp_Mo_header B0 R0 L0 S0 p0 p1 p2 p3 post := by
  subst hp0 hp1 hp2 hp3
  have bad : ¬ hOk a b c d → wj_Mo_header_59 B0 R0 L0 S0 (iI a) (iI b) (iI c) (iI d) post := by
    intro q
    unfold wj_Mo_header_59 wj_Mo_header_60
    exact ⟨fun _ => h2 q, fun q => absurd rfl q⟩
  have good : (hOk a b c d → 0 < c + b) → (0 < c + b → hOk a b c d) → c + b < 2147483648 → -2147483648 ≤ c + b → wj_Mo_header_49 B0 R0 L0 S0 (iI a) (iI b) (iI c) (iI d) post := by
    intro k1 k2 k3 k4
    unfold wj_Mo_header_49
    refine st_v (iI (c + b)) (iI_add _ _) ?_
    refine br_le (c + b) 0 (fun q => bad (fun q2 => by have := k1 q2; omega)) (fun q => ?_)
    unfold wj_Mo_header_60
    exact ⟨fun q => absurd q (by decide), fun _ => h1 (k2 q)⟩
  unfold hOk at bad good
  unfold wp_Mo_header
  refine br_lt a 10 (fun q => bad (by omega)) (fun q => ?_)
  refine br_lt 20 a (fun q => bad (by omega)) (fun q => ?_)
  refine br_lt b 1 (fun q => bad (by omega)) (fun q => ?_)
  refine br_lt 30 b (fun q => bad (by omega)) (fun q => ?_)
  refine br_lt c (-20) (fun q => bad (by omega)) (fun q => ?_)
  refine br_lt 0 c (fun q => bad (by omega)) (fun q => ?_)
  refine br_eq d 0 (fun q => ?_) (fun q => ?_)
  · exact good (by omega) (by omega) (by omega) (by omega)
  · refine br_ne d 1 (fun q => bad (by omega)) (fun q => ?_)
    exact good (by omega) (by omega) (by omega) (by omega)
theorem q_Mo_put {n : Nat} {g : Nat → Int32} {v : Int} {post : Int32 → (Int32 × Int32 × (Nat → Int32)) → Prop} (hn : n ≤ 600) (h1 : n < 600 → post (iI ((n + 1 : Nat) : Int)) (iI ((n + 1 : Nat) : Int), 0, upd g n (iI (v % 256)))) (h2 : n = 600 → post 0 (iI n, 1, g)) : wp_Mo_put (iI n) g (iI v) post := by
  unfold wp_Mo_put
  refine br_ne n 600 (fun q => ?_) (fun q => ?_)
  · unfold wj_Mo_put_16
    refine ⟨fun _ => ?_, fun q => absurd rfl q⟩
    refine st_v (iI (v % 256)) (iI_255 v) ?_
    refine st_st n 600 ?_
    exact st_v (iI ((n + 1 : Nat) : Int)) (ad n 1) (h1 (by omega))
  · unfold wj_Mo_put_16
    exact ⟨fun q => absurd q (by decide), fun _ => h2 (by omega)⟩
theorem p_byteAt {n : Nat} {g : Nat → Int32} {v : Int} {post : Int32 → Unit → Prop} (hn : n ≤ 600) (r1 : -2147483648 ≤ v) (r2 : v < 2147483648) (h1 : 0 ≤ v → v < n → post (g v.toNat) ()) (h2 : ¬ (0 ≤ v ∧ v < n) → post (-1) ()) : wp_Lp_byteAt (iI n) g (iI v) post := by
  unfold wp_Lp_byteAt
  refine br_lt v 0 (fun q => h2 (by omega)) (fun q => ?_)
  refine br_le n v (fun q2 => h2 (by omega)) (fun q2 => ?_)
  have e : v = (v.toNat : Int) := by omega
  rw [e]
  refine p_By_get v.toNat (by omega) ?_
  exact h1 q q2
theorem q_byteAt {n : Nat} {g : Nat → Int32} {v : Int} {post : Int32 → Int32 → Prop} (hn : n ≤ 600) (r1 : -2147483648 ≤ v) (r2 : v < 2147483648) (h1 : 0 ≤ v → v < n → post (g v.toNat) 0) (h2 : ¬ (0 ≤ v ∧ v < n) → post (-1) 0) : wp_Mo_byteAt (iI n) g (iI v) post := by
  unfold wp_Mo_byteAt
  refine br_lt v 0 (fun q => h2 (by omega)) (fun q => ?_)
  refine br_lt v n (fun q2 => ?_) (fun q2 => h2 (by omega))
  exact st_ld v.toNat 600 (h1 q q2)
theorem p_rowat {n : Nat} {g : Nat → Int32} {v w : Int} {post : Int32 → Unit → Prop} {postX : Nat × Unit → Prop} (hn : n ≤ 90) (r1 : -2147483648 ≤ v) (r2 : v < 2147483648) (s1 : -2147483648 ≤ w) (s2 : w < 2147483648) (h1 : 0 ≤ v → v < n → 0 ≤ w → w < 7 → post (g (7 * v.toNat + w.toNat)) ()) (h2 : ¬ (0 ≤ v ∧ v < n ∧ 0 ≤ w ∧ w < 7) → postX (1, ())) : wp_Lp_row (iI n) g (iI v) (iI w) post postX := by
  unfold wp_Lp_row
  refine br_lt v 0 (fun q => h2 (by omega)) (fun q => ?_)
  refine br_le n v (fun q2 => h2 (by omega)) (fun q2 => ?_)
  refine br_lt w 0 (fun q3 => h2 (by omega)) (fun q3 => ?_)
  refine br_lt w 7 (fun q4 => ?_) (fun q4 => h2 (by omega))
  exact p_Ro_get v.toNat w.toNat (by omega) (h1 q q2 q3 q4) (by congr 1; omega) (by congr 1; omega)
theorem q_rowat {n : Nat} {g : Nat → Int32} {v w : Int} {post : Int32 → Int32 → Prop} (hn : n ≤ 90) (r1 : -2147483648 ≤ v) (r2 : v < 2147483648) (s1 : -2147483648 ≤ w) (s2 : w < 2147483648) (h1 : 0 ≤ v → v < n → 0 ≤ w → w < 7 → post (g (7 * v.toNat + w.toNat)) 0) (h2 : ¬ (0 ≤ v ∧ v < n ∧ 0 ≤ w ∧ w < 7) → post 0 1) : wp_Mo_row (iI n) g (iI v) (iI w) post := by
  have bad : ¬ (0 ≤ v ∧ v < n ∧ 0 ≤ w ∧ w < 7) → wj_Mo_row_23 g (iI v) (iI w) post := by
    intro q
    unfold wj_Mo_row_23 wj_Mo_row_28
    exact ⟨fun _ => h2 q, fun q => absurd q (by decide)⟩
  unfold wp_Mo_row
  refine br_lt v 0 (fun q => bad (by omega)) (fun q => ?_)
  refine br_le n v (fun q2 => bad (by omega)) (fun q2 => ?_)
  refine br_lt w 0 (fun q3 => bad (by omega)) (fun q3 => ?_)
  refine br_le w 6 (fun q4 => ?_) (fun q4 => bad (by omega))
  unfold wj_Mo_row_28
  refine ⟨fun q => absurd rfl q, fun _ => ?_⟩
  refine st_v (iI (7 * v)) (ml 7 v) ?_
  refine st_v (iI (7 * v + w)) (iI_add _ _) ?_
  exact st_ld (7 * v.toNat + w.toNat) 630 (h1 q q2 q3 (by omega))
/-- the row for an address, from row i on; j rows are left -/
def sFind (R : Nat → Int32) (x : Int32) : Nat → Nat → Int
  | 0, _ => -1
  | j + 1, i => if R (7 * i + 6) = 0 ∧ R (7 * i) ≤ x ∧ x < R (7 * i + 7) then i else sFind R x j (i + 1)
theorem p_findL {n : Nat} {g R : Nat → Int32} {x : Int32} {post : Int32 → Unit → Prop} (hn : n ≤ 90) (hg : ag (7 * n) g R) : ∀ (j i : Nat), (i + 1 + j = n ∨ (n ≤ i + 1 ∧ j = 0)) → i ≤ 90 → post (iI (sFind R x j i)) () → wl_Lp_find_2 (iI n) g x post (j + 1) (iI i) := by
  intro j
  induction j with
  | zero =>
    intro i hi h9 h
    unfold wl_Lp_find_2
    refine st_v (iI ((i : Int) + 1)) (ad i 1) ?_
    exact br_le n ((i : Int) + 1) (fun _ => h) (fun q => by omega)
  | succ j ih =>
    intro i hi h9 h
    have hi : i + 1 + (j + 1) = n := by omega
    unfold wl_Lp_find_2
    refine st_v (iI ((i : Int) + 1)) (ad i 1) ?_
    refine br_le n ((i : Int) + 1) (fun q => by omega) (fun _ => ?_)
    refine p_Ro_get i 6 (by omega) ?_
    rw [hg (7 * i + 6) (by omega)]
    unfold sFind at h
    have nx : ¬ (R (7 * i + 6) = 0 ∧ R (7 * i) ≤ x ∧ x < R (7 * i + 7)) → ∀ y : Int32, y = iI i + Int32.ofInt 1 → wl_Lp_find_2 (iI n) g x post (j + 1) y := by
      intro q
      rw [if_neg q] at h
      exact st_v (iI ((i + 1 : Nat) : Int)) (ad i 1) (ih (i + 1) (by omega) (by omega) h)
    refine ⟨fun q => nx (fun e => q e.1), fun q => ?_⟩
    refine p_Ro_get i 0 (by omega) ?_
    rw [show g (7 * i + 0) = R (7 * i) from hg (7 * i) (by omega)]
    refine ⟨fun q2 => nx (fun e => absurd q2 (Int32.not_lt.mpr e.2.1)), fun q2 => ?_⟩
    refine st_v (iI ((i + 1 : Nat) : Int)) (ad i 1) ?_
    refine p_Ro_get (i + 1) 0 (by omega) ?_
    rw [show g (7 * (i + 1) + 0) = R (7 * i + 7) from hg (7 * i + 7) (by omega)]
    refine ⟨fun q3 => nx (fun e => absurd e.2.2 (Int32.not_lt.mpr q3)), fun q3 => ?_⟩
    rw [if_pos ⟨q, Int32.not_lt.mp q2, Int32.not_le.mp q3⟩] at h
    exact h
theorem p_find {n : Nat} {g R : Nat → Int32} {x : Int32} {post : Int32 → Unit → Prop} (hn : n ≤ 90) (hg : ag (7 * n) g R) (h : post (iI (sFind R x (n - 1) 0)) ()) : wp_Lp_find (iI n) g x post := by
  unfold wp_Lp_find
  refine ⟨n - 1 + 1, ?_⟩
  have y : (0 : Int32) = iI ((0 : Nat) : Int) := by decide
  rw [y]
  exact p_findL hn hg (n - 1) 0 (by omega) (by omega) h
theorem q_findL {n : Nat} {g R : Nat → Int32} {x : Int32} {post : Int32 → Int32 → Prop} (hn : n ≤ 90) (hg : ag (7 * n) g R) (hlast : n = 0 ∨ R (7 * n - 1) = iI 1) : ∀ (j i : Nat), (i + 1 + j = n ∨ (n ≤ i + 1 ∧ j = 0)) → i ≤ n → post (iI (sFind R x j i)) 0 → wl_Mo_find_7 (iI n) g x post (j + 2) (iI i) := by
  intro j
  induction j with
  | zero =>
    intro i hi h9 h
    unfold wl_Mo_find_7
    refine br_le n i (fun _ => h) (fun q => ?_)
    have hl : R (7 * n - 1) = iI 1 := by
      rcases hlast with q2 | q2
      · omega
      · exact q2
    refine st_v (iI (7 * i)) (ml 7 i) ?_
    refine st_v (iI (7 * i + 6)) (ad (7 * i) 6) ?_
    refine st_ld (7 * i + 6) 630 ?_
    have e : 7 * i + 6 = 7 * n - 1 := by omega
    rw [hg (7 * i + 6) (by omega), e, hl]
    refine ⟨fun _ => ?_, fun q => absurd q (by decide)⟩
    refine st_v (iI ((i + 1 : Nat) : Int)) (ad i 1) ?_
    unfold wl_Mo_find_7
    exact br_le n ((i + 1 : Nat) : Int) (fun _ => h) (fun q => by omega)
  | succ j ih =>
    intro i hi h9 h
    have hi : i + 1 + (j + 1) = n := by omega
    unfold wl_Mo_find_7
    refine br_le n i (fun q => by omega) (fun _ => ?_)
    refine st_v (iI (7 * i)) (ml 7 i) ?_
    refine st_v (iI (7 * i + 6)) (ad (7 * i) 6) ?_
    refine st_ld (7 * i + 6) 630 ?_
    rw [hg (7 * i + 6) (by omega)]
    unfold sFind at h
    have nx : ¬ (R (7 * i + 6) = 0 ∧ R (7 * i) ≤ x ∧ x < R (7 * i + 7)) → ∀ y : Int32, y = iI i + Int32.ofInt 1 → wl_Mo_find_7 (iI n) g x post (j + 2) y := by
      intro q
      rw [if_neg q] at h
      exact st_v (iI ((i + 1 : Nat) : Int)) (ad i 1) (ih (i + 1) (by omega) (by omega) h)
    refine ⟨fun q => nx (fun e => q e.1), fun q => ?_⟩
    refine st_v (iI (7 * i)) (ml 7 i) ?_
    refine st_ld (7 * i) 630 ?_
    rw [hg (7 * i) (by omega)]
    refine ⟨fun q2 => nx (fun e => absurd q2 (Int32.not_lt.mpr e.2.1)), fun q2 => ?_⟩
    refine st_v (iI (7 * i)) (ml 7 i) ?_
    refine st_v (iI (7 * i + 7)) (ad (7 * i) 7) ?_
    refine st_ld (7 * i + 7) 630 ?_
    rw [hg (7 * i + 7) (by omega)]
    refine ⟨fun q3 => nx (fun e => absurd e.2.2 (Int32.not_lt.mpr q3)), fun q3 => ?_⟩
    rw [if_pos ⟨q, Int32.not_lt.mp q2, Int32.not_le.mp q3⟩] at h
    exact h
theorem q_find {n : Nat} {g R : Nat → Int32} {x : Int32} {post : Int32 → Int32 → Prop} (hn : n ≤ 90) (hg : ag (7 * n) g R) (hlast : n = 0 ∨ R (7 * n - 1) = iI 1) (h : post (iI (sFind R x (n - 1) 0)) 0) : wp_Mo_find (iI n) g x post := by
  unfold wp_Mo_find
  refine ⟨n - 1 + 2, ?_⟩
  have y : (0 : Int32) = iI ((0 : Nat) : Int) := by decide
  rw [y]
  exact q_findL hn hg hlast (n - 1) 0 (by omega) (by omega) h
def eOk (E : Nat → Int) (n : Nat) (a f l c s : Int) : Prop := 0 ≤ a ∧ 0 ≤ f ∧ 0 ≤ l ∧ 0 ≤ c ∧ (s = 0 ∨ s = 1) ∧ (n = 0 ∨ E (5 * n - 5) < a)
theorem p_entry {E : Nat → Int} {n : Nat} {tg : Nat → Int32} (hT : tOk E n tg) {a f l c s : Int} (ra : -2147483648 ≤ a ∧ a < 2147483648) (rf : -2147483648 ≤ f ∧ f < 2147483648) (rl : -2147483648 ≤ l ∧ l < 2147483648) (rc : -2147483648 ≤ c ∧ c < 2147483648) (rs : -2147483648 ≤ s ∧ s < 2147483648) {post : Int32 → (Int32 × (Nat → Int32)) → Prop} {postX : Nat × (Int32 × (Nat → Int32)) → Prop}
    (h1 : ¬ eOk E n a f l c s → postX (2, (iI n, tg))) (h2 : eOk E n a f l c s → n = 60 → postX (5, (iI n, tg))) (h3 : eOk E n a f l c s → n < 60 → post (iI ((n + 1 : Nat) : Int)) (iI ((n + 1 : Nat) : Int), sRow5 tg n (iI a) (iI f) (iI l) (iI c) (iI s))) : wp_Lp_entry (iI n) tg (iI a) (iI f) (iI l) (iI c) (iI s) post postX := by
  have hn := hT.1
  unfold eOk at h1 h2 h3
  have last : (0 ≤ a ∧ 0 ≤ f ∧ 0 ≤ l ∧ 0 ≤ c ∧ (s = 0 ∨ s = 1) ∧ (n = 0 ∨ E (5 * n - 5) < a)) → wj_Lp_entry_79 (iI n) tg (iI a) (iI f) (iI l) (iI c) (iI s) post postX := by
    intro q
    unfold wj_Lp_entry_79
    exact br_lt n 60 (fun q2 => p_Ta_append n (by omega) (h3 q (by omega))) (fun q2 => h2 q (by omega))
  have mid : (0 ≤ a ∧ 0 ≤ f ∧ 0 ≤ l ∧ 0 ≤ c ∧ (s = 0 ∨ s = 1)) → wj_Lp_entry_48 (iI n) tg (iI a) (iI f) (iI l) (iI c) (iI s) post postX := by
    intro q
    unfold wj_Lp_entry_48
    refine br_le n 0 (fun q2 => last (by omega)) (fun q2 => ?_)
    refine p_Ta_last n (by omega) hn ?_
    have t0 := hT.2.1 (5 * n - 5) (by omega)
    rw [t0.1]
    exact br_lt (E (5 * n - 5)) a (fun q3 => last (by omega)) (fun q3 => h1 (by omega))
  unfold wp_Lp_entry
  refine br_lt a 0 (fun q => h1 (by omega)) (fun q => ?_)
  refine br_lt f 0 (fun q => h1 (by omega)) (fun q => ?_)
  refine br_lt l 0 (fun q => h1 (by omega)) (fun q => ?_)
  refine br_le 0 c (fun q => ?_) (fun q => h1 (by omega))
  refine br_eq s 0 (fun q => mid (by omega)) (fun q => ?_)
  exact br_eq s 1 (fun q => mid (by omega)) (fun q => h1 (by omega))
theorem q_entry {E : Nat → Int} {n : Nat} {tg : Nat → Int32} (hT : tOk E n tg) {a f l c s : Int} (ra : -2147483648 ≤ a ∧ a < 2147483648) (rf : -2147483648 ≤ f ∧ f < 2147483648) (rl : -2147483648 ≤ l ∧ l < 2147483648) (rc : -2147483648 ≤ c ∧ c < 2147483648) (rs : -2147483648 ≤ s ∧ s < 2147483648) {post : Int32 → (Int32 × Int32 × (Nat → Int32)) → Prop}
    (h1 : ¬ eOk E n a f l c s → post 0 (iI n, 1, tg)) (h2 : eOk E n a f l c s → n = 60 → post 0 (iI n, 2, tg)) (h3 : eOk E n a f l c s → n < 60 → post (iI ((n + 1 : Nat) : Int)) (iI ((n + 1 : Nat) : Int), 0, sRow5 tg n (iI a) (iI f) (iI l) (iI c) (iI s))) : wp_Mo_entry (iI n) tg (iI a) (iI f) (iI l) (iI c) (iI s) post := by
  have hn := hT.1
  unfold eOk at h1 h2 h3
  have e65 : ¬ (0 ≤ a ∧ 0 ≤ f ∧ 0 ≤ l ∧ 0 ≤ c ∧ (s = 0 ∨ s = 1) ∧ (n = 0 ∨ E (5 * n - 5) < a)) → wj_Mo_entry_65 (iI n) tg (iI a) (iI f) (iI l) (iI c) (iI s) post := by
    intro q
    unfold wj_Mo_entry_65 wj_Mo_entry_83
    exact ⟨fun q => absurd q (by decide), fun _ => h1 q⟩
  have e69 : (0 ≤ a ∧ 0 ≤ f ∧ 0 ≤ l ∧ 0 ≤ c ∧ (s = 0 ∨ s = 1) ∧ (n = 0 ∨ E (5 * n - 5) < a)) → wj_Mo_entry_69 (iI n) tg (iI a) (iI f) (iI l) (iI c) (iI s) post := by
    intro q
    unfold wj_Mo_entry_69
    refine br_ne n 60 (fun q2 => ?_) (fun q2 => ?_)
    · unfold wj_Mo_entry_83
      refine ⟨fun _ => ?_, fun q => absurd rfl q⟩
      refine st_v (iI (5 * n)) (ml 5 n) ?_
      refine st_st (5 * n) 300 ?_
      refine st_v (iI (5 * n + 1)) (ad (5 * n) 1) ?_
      refine st_st (5 * n + 1) 300 ?_
      refine st_v (iI (5 * n + 2)) (ad (5 * n) 2) ?_
      refine st_st (5 * n + 2) 300 ?_
      refine st_v (iI (5 * n + 3)) (ad (5 * n) 3) ?_
      refine st_st (5 * n + 3) 300 ?_
      refine st_v (iI (5 * n + 4)) (ad (5 * n) 4) ?_
      refine st_st (5 * n + 4) 300 ?_
      exact st_v (iI ((n + 1 : Nat) : Int)) (ad n 1) (h3 q (by omega))
    · unfold wj_Mo_entry_83
      exact ⟨fun q => absurd q (by decide), fun _ => h2 q (by omega)⟩
  have bad : ¬ (0 ≤ a ∧ 0 ≤ f ∧ 0 ≤ l ∧ 0 ≤ c ∧ (s = 0 ∨ s = 1)) → wj_Mo_entry_28 (iI n) tg (iI a) (iI f) (iI l) (iI c) (iI s) post := by
    intro q
    unfold wj_Mo_entry_28 wj_Mo_entry_33
    exact ⟨fun _ => e65 (by omega), fun q => absurd q (by decide)⟩
  unfold wp_Mo_entry
  refine br_lt a 0 (fun q => bad (by omega)) (fun q => ?_)
  refine br_lt f 0 (fun q => bad (by omega)) (fun q => ?_)
  refine br_lt l 0 (fun q => bad (by omega)) (fun q => ?_)
  refine br_lt c 0 (fun q => bad (by omega)) (fun q => ?_)
  refine br_lt s 0 (fun q => bad (by omega)) (fun q => ?_)
  refine br_le s 1 (fun q => ?_) (fun q => bad (by omega))
  unfold wj_Mo_entry_33
  refine ⟨fun q => absurd rfl q, fun _ => ?_⟩
  refine br_le n 0 (fun q2 => e69 (by omega)) (fun q2 => ?_)
  refine st_v (iI (5 * n)) (ml 5 n) ?_
  refine st_v (iI (5 * (n : Int) - 5)) (sb (5 * n) 5) ?_
  have t0 := hT.2.1 (5 * n - 5) (by omega)
  refine st_ld (5 * n - 5) 300 ?_
  rw [t0.1]
  exact br_lt (E (5 * n - 5)) a (fun q3 => e69 (by omega)) (fun q3 => e65 (by omega))
def eUp (E : Nat → Int) (n : Nat) (a f l c s : Int) : Nat → Int := fun q => if q = 5 * n then a else if q = 5 * n + 1 then f else if q = 5 * n + 2 then l else if q = 5 * n + 3 then c else if q = 5 * n + 4 then s else E q
theorem tOk_up {E : Nat → Int} {n : Nat} {tg : Nat → Int32} (hT : tOk E n tg) {a f l c s : Int} (h : eOk E n a f l c s) (hn : n < 60) (ra : a < 2147483648) (rf : f < 2147483648) (rl : l < 2147483648) (rc : c < 2147483648) : tOk (eUp E n a f l c s) (n + 1) (sRow5 tg n (iI a) (iI f) (iI l) (iI c) (iI s)) := by
  obtain ⟨g1, g2, g3, g4, g5, g6⟩ := h
  obtain ⟨k1, k2, k3, k4⟩ := hT
  refine ⟨by omega, fun q hq => ?_, fun i hi => ?_, fun i hi => ?_⟩
  · unfold eUp sRow5 upd
    by_cases e4 : q = 5 * n + 4
    · rw [if_pos e4, if_neg (by omega), if_neg (by omega), if_neg (by omega), if_neg (by omega), if_pos e4]
      exact ⟨rfl, by omega, by omega⟩
    rw [if_neg e4]
    by_cases e3 : q = 5 * n + 3
    · rw [if_pos e3, if_neg (by omega), if_neg (by omega), if_neg (by omega), if_pos e3]
      exact ⟨rfl, by omega, by omega⟩
    rw [if_neg e3]
    by_cases e2 : q = 5 * n + 2
    · rw [if_pos e2, if_neg (by omega), if_neg (by omega), if_pos e2]
      exact ⟨rfl, by omega, by omega⟩
    rw [if_neg e2]
    by_cases e1 : q = 5 * n + 1
    · rw [if_pos e1, if_neg (by omega), if_pos e1]
      exact ⟨rfl, by omega, by omega⟩
    rw [if_neg e1]
    by_cases e0 : q = 5 * n
    · rw [if_pos e0, if_pos e0]
      exact ⟨rfl, by omega, by omega⟩
    rw [if_neg e0, if_neg e0, if_neg e1, if_neg e2, if_neg e3, if_neg e4]
    exact k2 q (by omega)
  · unfold eUp
    by_cases e : i = n
    · rw [if_neg (by omega), if_neg (by omega), if_neg (by omega), if_neg (by omega), if_pos (by omega)]
      omega
    · rw [if_neg (by omega), if_neg (by omega), if_neg (by omega), if_neg (by omega), if_neg (by omega)]
      exact k3 i (by omega)
  · unfold eUp
    rw [if_neg (show ¬ 5 * i = 5 * n by omega), if_neg (show ¬ 5 * i = 5 * n + 1 by omega), if_neg (show ¬ 5 * i = 5 * n + 2 by omega), if_neg (show ¬ 5 * i = 5 * n + 3 by omega), if_neg (show ¬ 5 * i = 5 * n + 4 by omega)]
    by_cases e : i + 1 = n
    · rw [if_pos (by omega)]
      rcases g6 with g6 | g6
      · omega
      · rw [show 5 * i = 5 * n - 5 by omega]
        exact g6
    · rw [if_neg (by omega), if_neg (by omega), if_neg (by omega), if_neg (by omega), if_neg (by omega)]
      exact k4 i (by omega)
