theorem q_ins {b : Nat → Int} {z : Nat} {B : Nat → Int32} (hb : bOk b z B) {base range low start : Int} (hH : hOk base range low start) {a f l c s k m cd : Int} {t t0 n : Nat} {R g : Nat → Int32} {bf : Int64} {fs : Int32} {post : M13 → Prop} (hbf : bOf m bf fs) (hS : mOk z (a, f, l, c, s, k, m, t, n, R, false)) (hg : ag (7 * n) g R) (cd0 : 0 ≤ cd) (cd1 : cd < 256)
    (h : sK (sIns b z base range low start cd (a, f, l, c, s, k, m, t0, n, R, false) t) (nPost post) (nBad z post)) : wp_Mo_instruction (iI base) (iI range) (iI low) (iI start) (iI z) (iI n) (lI a) (lI l) (lI f) (lI c) (iI s) (iI k) bf fs (iI (dI false)) (iI t) 0 B g (iI cd) post := by
  have hz := hb.1
  have hS' := hS
  obtain ⟨a0, a1, f0, f1, i0, i1, c0, c1', s0, s1, k0, k1, m0, m1, ht, hn, hd⟩ := hS'
  have hH' := hH
  obtain ⟨e1, e2, e3, e4, e5, e6, e7, e8⟩ := hH'
  have hr : ¬ iI range = 0 := by
    rw [l0, iI_eq]
    omega
  unfold wp_Mo_instruction
  unfold sIns at h
  refine br_lt cd base (fun q => ?_) (fun q => ?_)
  · rw [if_neg (by omega)] at h
    refine br_eq cd 0 (fun q0 => ?_) (fun q0 => ?_)
    · rw [if_pos q0] at h
      refine q_ext (t0 := t0) hb hbf hS hg (sK_mono h (fun S e hq => ?_) (fun cc e hq => ?_))
      · have ok := (sK_e (s_ext_ok (t0 := t0) hb e8 hS) e).1
        obtain ⟨a', f', l', c', s', k', m', t', n', R', d'⟩ := S
        obtain ⟨a0, a1, f0, f1, i0, i1, c0, c1', s0, s1, k0, k1, m0, m1, ht, hn, hd⟩ := ok
        intro g' bf' fs' hg' hbf'
        exact y_check (by omega) (by omega) (by omega) (by omega) (fun q => by omega) (fun _ _ _ => nAt hq hg' hbf')
      · intro nr A L F C st bk bf fs en t' g ht'
        exact x_check (iI_f16 (sK_el f_ext e)) (hq _ _ _ _ _ _ _ _ _ _ _ _ ht')
    rw [if_neg q0] at h
    refine br_eq cd 1 (fun q0 => ?_) (fun q0 => ?_)
    · rw [if_pos q0] at h
      obtain ⟨k1, k2, k3⟩ := kRow h
      refine y_come (e := 0) hbf a0 a1 m0 m1 hn (Or.inl rfl) hg (fun q1 q2 g' hg' => ?_) (fun q => ?_) (fun q q' => ?_)
      · exact y_check (by omega) (by omega) (by omega) (by omega) (fun q => by omega) (fun _ _ _ => nAt (k3 q1 q2) hg' (Or.inr ⟨rfl, rfl⟩))
      · exact x_check d4 (k1 q _ _ _ _ _ _ _ _ _ _ _ _ ht)
      · exact x_check d5 (k2 q q' _ _ _ _ _ _ _ _ _ _ _ _ ht)
    rw [if_neg q0] at h
    refine br_eq cd 2 (fun q0 => ?_) (fun q0 => ?_)
    · rw [if_pos q0, sK_bind] at h
      refine q_uns hb ht (sK_mono h (fun q e hq => ?_) (fun cc e hq t' ht' => ?_))
      · obtain ⟨v1, v2, v3, v4, v5⟩ := sNum_ok hb 5 t 0 (by omega) e
        have v3 := v3 rfl
        obtain ⟨k1, k2⟩ := kAddr hq
        dsimp only at k1 k2
        refine st_v (lI (a + q.1)) (lI_add _ _) ?_
        exact y_check (by omega) (by omega) (by omega) (by omega) (fun q3 => k2 (by omega) _ _ _ _ _ _ _ _ _ _ _ _ v5) (fun _ _ q3 => nAt (k1 q3) hg hbf)
      · intro x _
        exact x_check (iI_c12 (sNum_bad 5 t 0 e)) (hq _ _ _ _ _ _ _ _ _ _ _ _ ht')
    rw [if_neg q0] at h
    refine br_eq cd 3 (fun q0 => ?_) (fun q0 => ?_)
    · rw [if_pos q0, sK_bind] at h
      refine q_sig hb ht (sK_mono h (fun q e hq => ?_) (fun cc e hq t' ht' => ?_))
      · obtain ⟨v1, v2, v3, v4, v5⟩ := sNum_ok hb 5 t 0 (by omega) e
        obtain ⟨k1, k2⟩ := kLine hq
        refine st_v (lI (l + q.1)) (lI_add _ _) ?_
        exact y_check (by omega) (by omega) (by omega) (by omega) (fun q3 => k2 (by omega) _ _ _ _ _ _ _ _ _ _ _ _ v5) (fun q3 q4 _ => nAt (k1 ⟨q3, q4⟩) hg hbf)
      · intro x _
        exact x_check (iI_c12 (sNum_bad 5 t 0 e)) (hq _ _ _ _ _ _ _ _ _ _ _ _ ht')
    rw [if_neg q0] at h
    refine br_eq cd 4 (fun q0 => ?_) (fun q0 => ?_)
    · rw [if_pos q0, sK_bind] at h
      refine q_uns hb ht (sK_mono h (fun q e hq => ?_) (fun cc e hq t' ht' => ?_))
      · exact y_check (by omega) (by omega) (by omega) (by omega) (fun q3 => by omega) (fun _ _ _ => nAt (sK_r hq) hg hbf)
      · exact x_check (iI_c12 (sNum_bad 5 t 0 e)) (hq _ _ _ _ _ _ _ _ _ _ _ _ ht')
    rw [if_neg q0] at h
    refine br_eq cd 5 (fun q0 => ?_) (fun q0 => ?_)
    · rw [if_pos q0, sK_bind] at h
      refine q_uns hb ht (sK_mono h (fun q e hq => ?_) (fun cc e hq t' ht' => ?_))
      · exact y_check (by omega) (by omega) (by omega) (by omega) (fun q3 => by omega) (fun _ _ _ => nAt (sK_r hq) hg hbf)
      · exact x_check (iI_c12 (sNum_bad 5 t 0 e)) (hq _ _ _ _ _ _ _ _ _ _ _ _ ht')
    rw [if_neg q0] at h
    refine br_eq cd 6 (fun q0 => ?_) (fun q0 => ?_)
    · rw [if_pos q0] at h
      refine st_v (iI (1 - s)) (sb 1 s) ?_
      exact y_check (by omega) (by omega) (by omega) (by omega) (fun q3 => by omega) (fun _ _ _ => nAt (sK_r h) hg hbf)
    rw [if_neg q0] at h
    refine br_eq cd 7 (fun q0 => ?_) (fun q0 => ?_)
    · rw [if_pos q0] at h
      refine y_check (by omega) (by omega) (by omega) (by omega) (fun q3 => by omega) (fun _ _ _ => ?_)
      rw [l1]
      exact nAt (sK_r h) hg hbf
    rw [if_neg q0] at h
    have hq1 : 0 ≤ (255 - base) / range := Int.ediv_nonneg (by omega) (by omega)
    have hq2 : (255 - base) / range ≤ 255 - base := Int.ediv_le_self _ (by omega)
    refine br_eq cd 8 (fun q0 => ?_) (fun q0 => ?_)
    · rw [if_pos q0] at h
      obtain ⟨k1, k2⟩ := kAddr h
      dsimp only at k1 k2
      unfold wp_Mo_stepOf
      refine st_v (iI (255 - base)) (sb 255 base) ?_
      refine ⟨hr, ?_⟩
      refine st_v (iI ((255 - base) / range)) iI_div ?_
      refine st_v (lI ((255 - base) / range)) iI_l ?_
      refine st_v (lI (a + (255 - base) / range)) (lI_add _ _) ?_
      exact y_check (by omega) (by omega) (by omega) (by omega) (fun q3 => k2 (by omega) _ _ _ _ _ _ _ _ _ _ _ _ ht) (fun _ _ q3 => nAt (k1 q3) hg hbf)
    rw [if_neg q0] at h
    refine br_eq cd 9 (fun q0 => ?_) (fun q0 => ?_)
    · rw [if_pos q0] at h
      by_cases c8 : z < t + 2
      · rw [if_pos c8] at h
        have h := sK_l h
        refine q_next hb ht (fun q2 => ?_) (fun q2 _ => ?_) (fun _ q2 => absurd rfl q2)
        · refine q_next hb (by omega) (fun q3 => by omega) (fun q3 _ => ?_) (fun _ q2 => absurd rfl q2)
          intro _ _ _ _ _ _ _ _
          exact x_check d1 (h _ _ _ _ _ _ _ _ _ _ _ _ (by omega))
        · refine x_next hb ht d1 (fun x t' ht' => ?_)
          intro _ _ _ _ _ _ _ _
          exact x_check d1 (h _ _ _ _ _ _ _ _ _ _ _ _ ht')
      · rw [if_neg c8] at h
        obtain ⟨k1, k2⟩ := kAddr h
        dsimp only at k1 k2
        have w1 := (hb.2 t (by omega)).2
        have w2 := (hb.2 (t + 1) (by omega)).2
        refine q_next hb ht (fun q2 => ?_) (fun q2 => by omega) (fun q2 => by omega)
        refine q_next hb (by omega) (fun q3 => ?_) (fun q3 => by omega) (fun q3 => by omega)
        refine st_v (iI (256 * b (t + 1))) (ml 256 (b (t + 1))) ?_
        refine st_v (iI (b t + 256 * b (t + 1))) (iI_add _ _) ?_
        refine st_v (lI (b t + 256 * b (t + 1))) iI_l ?_
        have e9 : a + (b t + 256 * b (t + 1)) = a + b t + b (t + 1) * 256 := by omega
        refine st_v (lI (a + b t + b (t + 1) * 256)) (by rw [lI_add, e9]) ?_
        exact y_check (by omega) (by omega) (by omega) (by omega) (fun q3 => k2 (by omega) _ _ _ _ _ _ _ _ _ _ _ _ (by omega)) (fun _ _ q3 => nAt (k1 q3) hg hbf)
    rw [if_neg q0, sK_bind] at h
    refine q_uns hb ht (sK_mono h (fun q e hq => ?_) (fun cc e hq t' ht' => ?_))
    · exact y_check (by omega) (by omega) (by omega) (by omega) (fun q3 => by omega) (fun _ _ _ => nAt (sK_r hq) hg hbf)
    · exact x_check (iI_c12 (sNum_bad 5 t 0 e)) (hq _ _ _ _ _ _ _ _ _ _ _ _ ht')
  · rw [if_pos (by omega)] at h
    unfold wp_Mo_special
    unfold sSpec at h
    rw [sK_bind] at h
    obtain ⟨k1, k2⟩ := kLine h
    have r0 : 0 ≤ (cd - base) % range := Int.emod_nonneg _ (by omega)
    have r1 : (cd - base) % range < range := Int.emod_lt_of_pos _ (by omega)
    have d0 : 0 ≤ (cd - base) / range := Int.ediv_nonneg (by omega) (by omega)
    have d1 : (cd - base) / range ≤ cd - base := Int.ediv_le_self _ (by omega)
    refine st_v (iI (cd - base)) (sb cd base) ?_
    refine ⟨hr, ?_⟩
    refine st_v (iI ((cd - base) % range)) iI_rem ?_
    refine st_v (iI (low + (cd - base) % range)) (iI_add _ _) ?_
    refine st_v (lI (low + (cd - base) % range)) iI_l ?_
    refine st_v (lI (l + (low + (cd - base) % range))) (lI_add _ _) ?_
    refine ⟨hr, ?_⟩
    refine st_v (iI ((cd - base) / range)) iI_div ?_
    refine st_v (lI ((cd - base) / range)) iI_l ?_
    refine st_v (lI (a + (cd - base) / range)) (lI_add _ _) ?_
    refine y_check (by omega) (by omega) (by omega) (by omega) (fun q3 => ?_) (fun q3 q4 q5 => ?_)
    · have bad : nBad z post 3 := by
        by_cases q6 : 0 ≤ l + (low + (cd - base) % range) ∧ l + (low + (cd - base) % range) ≤ 2147483647
        · have h := sK_bind.mp (k1 q6)
          dsimp only at h
          exact (kAddr h).2 (by omega)
        · exact k2 q6
      exact x_come (by decide) (bad _ _ _ _ _ _ _ _ _ _ _ _ ht)
    · have h := sK_bind.mp (k1 ⟨q3, q4⟩)
      dsimp only at h
      obtain ⟨k5, k6, k7⟩ := kRow ((kAddr h).1 q5)
      exact y_come (e := 0) hbf (by omega) q5 m0 m1 hn (Or.inl rfl) hg (fun q1 q2 g' hg' => nAt (k7 q1 q2) hg' (Or.inr ⟨rfl, rfl⟩)) (fun q => k5 q _ _ _ _ _ _ _ _ _ _ _ _ ht) (fun q q' => k6 q q' _ _ _ _ _ _ _ _ _ _ _ _ ht)
/-! the reference's run -/
abbrev M16 := Int32 × Int32 × Int64 × Int64 × Int64 × Int64 × Int32 × Int32 × Int64 × Int32 × Int32 × Int32 × Int32 × Int32 × (Nat → Int32) × (Nat → Int32)
def rBad (post : Int32 → M16 → Prop) (rows : Int32) (row : Nat → Int32) (c : Nat) : Prop := ∀ (nr : Int32) (A L F C : Int64) (st bk : Int32) (bf : Int64) (fs en at9 : Int32) (g : Nat → Int32), post 0 (rows, nr, A, L, F, C, st, bk, bf, fs, en, at9, iI c, iI c, row, g)
def rOk (post : Int32 → M16 → Prop) (n : Nat) (R : Nat → Int32) : Prop := ∀ (A L F C : Int64) (st bk : Int32) (bf : Int64) (fs en at9 : Int32) (row g : Nat → Int32), ag (7 * n) row R → ag (7 * n) g R → post (iI n) (iI n, iI n, A, L, F, C, st, bk, bf, fs, en, at9, 0, 0, row, g)
theorem q_copy {A L F C bf : Int64} {st bk fs en at9 : Int32} {g : Nat → Int32} {n : Nat} {post : Int32 → M16 → Prop} (hn : n ≤ 90) (h : ∀ row, ag (7 * n) row g → post (iI n) (iI n, iI n, A, L, F, C, st, bk, bf, fs, en, at9, 0, 0, row, g)) : ∀ (j i : Nat) (row : Nat → Int32), i + j = 7 * n → ag i row g → wl_Mo_run_97 post g A L F C st bk bf fs en at9 (iI n) 0 (j + 1) row (iI i) := by
  intro j
  induction j with
  | zero =>
    intro i row hi hr
    unfold wl_Mo_run_97
    refine st_v (iI (7 * n)) (ml 7 n) ?_
    obtain rfl : i = 7 * n := by omega
    exact br_le (7 * n) ((7 * n : Nat) : Int) (fun _ => h row hr) (fun q => by omega)
  | succ j ih =>
    intro i row hi hr
    unfold wl_Mo_run_97
    refine st_v (iI (7 * n)) (ml 7 n) ?_
    refine br_le (7 * n) i (fun q => by omega) (fun _ => ?_)
    refine st_ld i 630 ?_
    refine st_st i 630 ?_
    refine st_v (iI ((i + 1 : Nat) : Int)) (ad i 1) ?_
    refine ih (i + 1) _ (by omega) ?_
    intro q hq
    unfold upd
    by_cases e : q = i
    · rw [if_pos e, e]
    · rw [if_neg e]
      exact hr q (by omega)
theorem x_70 {A L F C bf : Int64} {rows st bk fs en at9 nr ft : Int32} {row g : Nat → Int32} {post : Int32 → M16 → Prop} (hf : ¬ ft = 0) (h : post 0 (rows, nr, A, L, F, C, st, bk, bf, fs, en, at9, ft, ft, row, g)) : wj_Mo_run_70 rows row post g A L F C st bk bf fs en at9 nr ft := by
  unfold wj_Mo_run_70
  exact ⟨fun q => absurd q hf, fun _ => h⟩
theorem x_60 {A L F C bf : Int64} {rows st bk fs en at9 nr ft cl : Int32} {row g : Nat → Int32} {post : Int32 → M16 → Prop} (hf : ¬ ft = 0) (h : post 0 (rows, nr, A, L, F, C, st, bk, bf, fs, en, at9, ft, ft, row, g)) : wj_Mo_run_60 rows row post g A L F C st bk bf fs en at9 ft nr cl := by
  unfold wj_Mo_run_60
  exact ⟨fun _ => x_70 hf h, fun _ => q_wrong (fun _ => x_70 hf h) (fun q => absurd q hf)⟩
theorem x_loop {A L F C bf : Int64} {base range low start z9 rows st bk fs en at9 nr ft cl : Int32} {B row g : Nat → Int32} {post : Int32 → M16 → Prop} (j : Nat) (hf : ¬ ft = 0) (h : post 0 (rows, nr, A, L, F, C, st, bk, bf, fs, en, at9, ft, ft, row, g)) : wl_Mo_run_21 base range low start z9 rows B row post (j + 1) g A L F C st bk bf fs en at9 ft nr cl := by
  unfold wl_Mo_run_21
  exact ⟨fun _ => x_60 hf h, fun _ => ⟨fun _ => x_60 hf h, fun q => absurd q hf⟩⟩
theorem y_60 {A L F C bf : Int64} {rows st bk fs en at9 : Int32} {row g R : Nat → Int32} {n : Nat} {d : Bool} {post : Int32 → M16 → Prop} (hn : n ≤ 90) (hg : ag (7 * n) g R) (h1 : d = true → rOk post n R) (h2 : d = false → rBad post rows row 6) : wj_Mo_run_60 rows row post g A L F C st bk bf fs en at9 0 (iI n) (iI (dI d)) := by
  unfold wj_Mo_run_60
  cases d with
  | true =>
    refine ⟨fun _ => ?_, fun q => absurd q (by decide)⟩
    unfold wj_Mo_run_70
    refine ⟨fun _ => ⟨7 * n + 1, ?_⟩, fun q => absurd rfl q⟩
    have q := q_copy (A := A) (L := L) (F := F) (C := C) (bf := bf) (st := st) (bk := bk) (fs := fs) (en := en) (at9 := at9) (g := g) (post := post) hn (fun row hr => h1 rfl _ _ _ _ _ _ _ _ _ _ _ _ (fun q hq => (hr q hq).trans (hg q hq)) hg) (7 * n) 0 row (by omega) (fun q hq => absurd hq (by omega))
    exact q
  | false =>
    refine ⟨fun q => absurd (by decide) q, fun _ => ?_⟩
    refine q_wrong (fun q => absurd rfl q) (fun _ => ?_)
    rw [c6]
    exact x_70 (by decide) (h2 rfl _ _ _ _ _ _ _ _ _ _ _ _)
theorem q_loop {b : Nat → Int} {z : Nat} {B : Nat → Int32} (hb : bOk b z B) {base range low start : Int} (hH : hOk base range low start) {rows : Int32} {row : Nat → Int32} {post : Int32 → M16 → Prop} : ∀ (j : Nat) (a f l c s k m : Int) (t n : Nat) (R g : Nat → Int32) (d : Bool) (bf : Int64) (fs en : Int32), mOk z (a, f, l, c, s, k, m, t, n, R, d) → ag (7 * n) g R → bOf m bf fs → z ≤ t + j →
    sK (sLoop b z base range low start j (a, f, l, c, s, k, m, t, n, R, d)) (fun S => (sE S = true → rOk post (sN S) (sR S)) ∧ (sE S = false → rBad post rows row 6)) (rBad post rows row) →
    wl_Mo_run_21 (iI base) (iI range) (iI low) (iI start) (iI z) rows B row post (j + 2) g (lI a) (lI l) (lI f) (lI c) (iI s) (iI k) bf fs en (iI t) 0 (iI n) (iI (dI d)) := by
  have hz := hb.1
  intro j
  induction j with
  | zero =>
    intro a f l c s k m t n R g d bf fs en hS hg hbf hj h
    obtain ⟨a0, a1, f0, f1, i0, i1, c0, c1', s0, s1, k0, k1, m0, m1, ht, hn, hd⟩ := hS
    obtain ⟨h1, h2⟩ := sK_r h
    unfold wl_Mo_run_21
    exact br_le z t (fun _ => y_60 hn hg h1 h2) (fun q => by omega)
  | succ j ih =>
    intro a f l c s k m t n R g d bf fs en hS hg hbf hj h
    obtain ⟨a0, a1, f0, f1, i0, i1, c0, c1', s0, s1, k0, k1, m0, m1, ht, hn, hd⟩ := hS
    unfold sLoop at h
    unfold wl_Mo_run_21
    by_cases q : z ≤ t
    · rw [if_pos (show z ≤ sT (a, f, l, c, s, k, m, t, n, R, d) from q)] at h
      obtain ⟨h1, h2⟩ := sK_r h
      exact br_le z t (fun _ => y_60 hn hg h1 h2) (fun q => by omega)
    · rw [if_neg (show ¬ z ≤ sT (a, f, l, c, s, k, m, t, n, R, d) from q), sK_bind] at h
      refine br_le z t (fun q => by omega) (fun _ => ?_)
      refine ⟨fun q => absurd rfl q, fun _ => ?_⟩
      refine q_next hb ht (fun q2 => ?_) (fun q2 => by omega) (fun q2 => by omega)
      obtain ⟨-, b0, b1⟩ := hb.2 t q2
      have hS' : mOk z (a, f, l, c, s, k, m, t + 1, n, R, false) := ⟨a0, a1, f0, f1, i0, i1, c0, c1', s0, s1, k0, k1, m0, m1, by omega, hn, fun q => Bool.noConfusion q⟩
      have e0 : iI (dI false) = (0 : Int32) := by decide
      have hI := @q_ins b z B hb base range low start hH a f l c s k m (b t) (t + 1) t n R g bf fs
      rw [e0] at hI
      refine hI hbf hS' hg b0 b1 (sK_mono h (fun S' e hS2 => ?_) (fun cc e hq => ?_))
      · have ok := sK_e (s_ins_ok (t0 := t) hb hH hS' b0 b1) e
        obtain ⟨a', f', l', c', s', k', m', t', n', R', d'⟩ := S'
        intro g' bf' fs' hg' hbf'
        have ok2 : t + 1 ≤ t' := ok.2
        exact ih a' f' l' c' s' k' m' t' n' R' g' d' bf' fs' _ ok.1 hg' hbf' (by omega) hS2
      · intro nr A L F C st bk bf fs en t' g ht'
        exact x_loop (j + 1) (iI_f16 (sK_el f_ins e)) (hq _ _ _ _ _ _ _ _ _ _ _ _)
theorem q_Mo_run {b : Nat → Int} {z : Nat} {B : Nat → Int32} (hb : bOk b z B) {base range low start : Int} (hH : hOk base range low start) {rows en : Int32} {bf : Int64} {row g : Nat → Int32} {post : Int32 → M16 → Prop} (h : sK (sRun b z base range low start) (fun q => rOk post q.1 q.2) (rBad post rows row)) : wp_Mo_run (iI base) (iI range) (iI low) (iI start) (iI z) rows bf en B row g post := by
  unfold sRun at h
  rw [sK_bind] at h
  have hH' := hH
  obtain ⟨e1, e2, e3, e4, e5, e6, e7, e8⟩ := hH'
  unfold wp_Mo_run wp_Mo_begin
  refine ⟨602, ?_⟩
  have hz := hb.1
  have q := q_loop hb hH 600 0 1 1 0 start 0 0 0 0 (fun _ => 0) g true bf 1 en
    ⟨by omega, by omega, by omega, by omega, by omega, by omega, by omega, by omega, by omega, by omega, by omega, by omega, by omega, by omega, by omega, by omega, fun _ => Or.inl rfl⟩ (fun q hq => absurd hq (by omega)) (Or.inl ⟨rfl, rfl⟩) (by omega)
    (sK_mono h (fun S _ hS => ⟨fun hE => by
      rw [if_pos hE] at hS
      exact hS, fun hE => by
      rw [if_neg (by rw [hE]; decide)] at hS
      exact hS⟩) (fun c _ q => q))
  have y1 : lI 0 = (0 : Int64) := by decide
  have y2 : lI 1 = (1 : Int64) := by decide
  have y3 : iI 0 = (0 : Int32) := by decide
  have y4 : iI ((0 : Nat) : Int) = (0 : Int32) := by decide
  have y5 : iI (dI true) = (1 : Int32) := by decide
  rw [y1, y2, y3, y4, y5] at q
  exact q
