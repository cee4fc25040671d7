/-! writing: the reference. hv g P: the first 600 of the bytes P stand in g -/
def hv (g : Nat → Int32) (P : List Int) : Prop := ∀ (i : Nat) (v : Int), i < 600 → P[i]? = some v → g i = iI v ∧ 0 ≤ v ∧ v < 256
abbrev W2 := Int32 × (Nat → Int32)
theorem q_add {P : List Int} {g : Nat → Int32} (hP : hv g P) {x : Int64} (w : Int) {v : Int} {post : W2 → Prop} (hl : (P ++ [v]).length ≤ 5000) (h : ∀ g', hv g' (P ++ [v]) → post (iI (((P ++ [v]).length : Nat) : Int), g')) (hw : w % 256 = v := by omega) (hx : x = lI w := by first | rfl | decide) : wp_Mo_add (iI (P.length : Nat)) g x post := by
  subst hw hx
  have e := len1 P (w % 256)
  rw [e] at hl
  have e1 : ((P.length : Nat) : Int) + 1 = ((P.length + 1 : Nat) : Int) := rfl
  unfold wp_Mo_add
  refine br_le 600 (P.length : Nat) (fun q => ?_) (fun q => ?_)
  · refine st_v (iI ((P.length + 1 : Nat) : Int)) (ad (P.length : Nat) 1) ?_
    have hh : hv g (P ++ [w % 256]) := fun i v hi h9 => by
      rcases at_end h9 with ⟨q1, q2⟩ | ⟨q1, q2⟩
      · exact hP i v hi q2
      · omega
    have h := h g hh
    rw [e] at h
    exact h
  · refine st_v (lI (w % 256)) (lI_255 w) ?_
    refine st_v (iI (w % 256)) (lI_i _) ?_
    refine st_st P.length 600 ?_
    refine st_v (iI ((P.length + 1 : Nat) : Int)) (ad (P.length : Nat) 1) ?_
    have hh : hv (upd g P.length (iI (w % 256))) (P ++ [w % 256]) := fun i v hi h9 => by
      rcases at_end h9 with ⟨q1, q2⟩ | ⟨q1, q2⟩
      · unfold upd
        rw [if_neg (by omega)]
        exact hP i v hi q2
      · unfold upd
        rw [if_pos q1, q2]
        exact ⟨rfl, by omega, by omega⟩
    have h := h _ hh
    rw [e] at h
    exact h
theorem lm {A B : List Int} {N : Nat} (h : (A ++ B).length ≤ N) : A.length ≤ N := by
  rw [List.length_append] at h
  omega
theorem q_auL {post : W2 → Prop} : ∀ (k : Nat) (P : List Int) (g : Nat → Int32) (v : Int), k ≤ 5 → hv g P → 0 ≤ v → v < ub k → (P ++ uL k v).length ≤ 5000 → (∀ g', hv g' (P ++ uL k v) → post (iI (((P ++ uL k v).length : Nat) : Int), g')) → wl_Mo_addUnsigned_9 post (k + 1) g (iI (P.length : Nat)) (lI v) := by
  intro k
  induction k with
  | zero =>
    intro P g v hk hP v0 v1 hl h
    have e1 : ub 0 = 1 := rfl
    unfold wl_Mo_addUnsigned_9
    refine lc_le v 127 (fun _ => ?_) (fun q => by omega)
    exact q_add hP v hl (fun g' hg' => h g' hg')
  | succ k ih =>
    intro P g v hk hP v0 v1 hl h
    have hu := ub_ok (k + 1)
    unfold wl_Mo_addUnsigned_9
    unfold uL at h hl
    refine lc_le v 127 (fun q => ?_) (fun q => ?_)
    · rw [if_neg (by omega)] at h hl
      exact q_add hP v hl (fun g' hg' => h g' hg')
    · have e : P ++ (v % 128 + 128) :: uL k (v / 128) = (P ++ [v % 128 + 128]) ++ uL k (v / 128) := by simp
      rw [if_pos q, e] at h hl
      refine st_v (lI (v % 128)) (lI_127 v) ?_
      refine st_v (lI (v % 128 + 128)) lI_128 ?_
      refine q_add hP (v % 128 + 128) (lm hl) (fun g' hg' => ?_)
      refine st_v (lI (v / 128)) lI_sh7 ?_
      have hd := ub_dn k (by omega) (show -(ub (k + 1)) ≤ v by omega) v1
      exact ih _ g' (v / 128) (by omega) hg' (by omega) hd.2 hl h
theorem q_au {P : List Int} {g : Nat → Int32} (hP : hv g P) {y : Int32} (o v : Int) (o0 : 0 ≤ o) (o1 : o < 256) (v0 : 0 ≤ v) (v1 : v ≤ 2147483647) {post : W2 → Prop} (hl : (P ++ o :: uL 5 v).length ≤ 5000) (h : ∀ g', hv g' (P ++ o :: uL 5 v) → post (iI (((P ++ o :: uL 5 v).length : Nat) : Int), g')) (hy : y = iI o := by first | rfl | decide) : wp_Mo_addUnsigned (iI (P.length : Nat)) g y (lI v) post := by
  subst hy
  have e : P ++ o :: uL 5 v = (P ++ [o]) ++ uL 5 v := by simp
  rw [e] at h hl
  unfold wp_Mo_addUnsigned
  refine st_v (lI o) iI_l ?_
  refine q_add hP o (lm hl) (fun g' hg' => ?_)
  exact ⟨6, q_auL 5 _ g' v (by omega) hg' v0 (show v < 2147483648 by omega) hl h⟩
theorem q_asL {post : W2 → Prop} : ∀ (k : Nat) (P : List Int) (g : Nat → Int32) (v : Int), k ≤ 5 → hv g P → -(ub k) ≤ v → v < ub k → (P ++ gL k v).length ≤ 5000 → (∀ g', hv g' (P ++ gL k v) → post (iI (((P ++ gL k v).length : Nat) : Int), g')) → wl_Mo_addSigned_9 post (k + 1) g (iI (P.length : Nat)) (lI v) := by
  intro k
  induction k with
  | zero =>
    intro P g v hk hP v0 v1 hl h
    have e1 : ub 0 = 1 := rfl
    unfold wl_Mo_addSigned_9
    refine lc_lt v (-64) (fun q => by omega) (fun _ => ?_)
    refine lc_le v 63 (fun _ => ?_) (fun q => by omega)
    refine st_v (lI (v % 128)) (lI_127 v) ?_
    exact q_add hP (v % 128) hl (fun g' hg' => h g' hg')
  | succ k ih =>
    intro P g v hk hP v0 v1 hl h
    have hu := ub_ok (k + 1)
    have e : P ++ (v % 128 + 128) :: gL k (v / 128) = (P ++ [v % 128 + 128]) ++ gL k (v / 128) := by simp
    have hd := ub_dn k (by omega) v0 v1
    unfold wl_Mo_addSigned_9
    unfold gL at h hl
    refine lc_lt v (-64) (fun q => ?_) (fun q => ?_)
    · rw [if_pos (Or.inl q), e] at h hl
      refine st_v (lI (v % 128)) (lI_127 v) ?_
      refine st_v (lI (v % 128 + 128)) lI_128 ?_
      refine q_add hP (v % 128 + 128) (lm hl) (fun g' hg' => ?_)
      refine st_v (lI (v / 128)) lI_sh7 ?_
      exact ih _ g' (v / 128) (by omega) hg' hd.1 hd.2 hl h
    · refine lc_le v 63 (fun q2 => ?_) (fun q2 => ?_)
      · rw [if_neg (by omega)] at h hl
        refine st_v (lI (v % 128)) (lI_127 v) ?_
        exact q_add hP (v % 128) hl (fun g' hg' => h g' hg')
      · rw [if_pos (Or.inr q2), e] at h hl
        refine st_v (lI (v % 128)) (lI_127 v) ?_
        refine st_v (lI (v % 128 + 128)) lI_128 ?_
        refine q_add hP (v % 128 + 128) (lm hl) (fun g' hg' => ?_)
        refine st_v (lI (v / 128)) lI_sh7 ?_
        exact ih _ g' (v / 128) (by omega) hg' hd.1 hd.2 hl h
theorem q_as {P : List Int} {g : Nat → Int32} (hP : hv g P) {y : Int32} (o v : Int) (o0 : 0 ≤ o) (o1 : o < 256) (v0 : -2147483648 ≤ v) (v1 : v ≤ 2147483647) {post : W2 → Prop} (hl : (P ++ o :: gL 5 v).length ≤ 5000) (h : ∀ g', hv g' (P ++ o :: gL 5 v) → post (iI (((P ++ o :: gL 5 v).length : Nat) : Int), g')) (hy : y = iI o := by first | rfl | decide) : wp_Mo_addSigned (iI (P.length : Nat)) g y (lI v) post := by
  subst hy
  have e : P ++ o :: gL 5 v = (P ++ [o]) ++ gL 5 v := by simp
  rw [e] at h hl
  unfold wp_Mo_addSigned
  refine st_v (lI o) iI_l ?_
  refine q_add hP o (lm hl) (fun g' hg' => ?_)
  exact ⟨6, q_asL 5 _ g' v (by omega) hg' (show -2147483648 ≤ v by omega) (show v < 2147483648 by omega) hl h⟩
abbrev W7 := Int64 × Int64 × Int64 × Int64 × Int32 × Int32 × (Nat → Int32)
def ePost (E : Nat → Int) (i : Nat) (post : W7 → Prop) (L : List Int) : Prop := ∀ g', hv g' L → post (lI (E (5 * i)), lI (E (5 * i + 2)), lI (E (5 * i + 1)), lI (E (5 * i + 3)), iI (E (5 * i + 4)), iI ((L.length : Nat) : Int), g')
theorem q_275 {E : Nat → Int} {n i : Nat} {tg : Nat → Int32} (hT : tOk E n tg) (hi : i < n) {L : List Int} {g : Nat → Int32} {post : W7 → Prop} (hg : hv g L) (h : ePost E i post L) : wj_Mo_writeEntry_275 tg (iI (5 * i)) post (iI ((L.length : Nat) : Int)) g := by
  have hn := hT.1
  have t0 := hT.2.1 (5 * i) (by omega)
  have t1 := hT.2.1 (5 * i + 1) (by omega)
  have t2 := hT.2.1 (5 * i + 2) (by omega)
  have t3 := hT.2.1 (5 * i + 3) (by omega)
  have t4 := hT.2.1 (5 * i + 4) (by omega)
  unfold wj_Mo_writeEntry_275
  refine st_ld (5 * i) 300 ?_
  rw [t0.1]
  refine st_v (lI (E (5 * i))) iI_l ?_
  refine st_v (iI (5 * i + 1)) (ad (5 * i) 1) ?_
  refine st_ld (5 * i + 1) 300 ?_
  rw [t1.1]
  refine st_v (lI (E (5 * i + 1))) iI_l ?_
  refine st_v (iI (5 * i + 2)) (ad (5 * i) 2) ?_
  refine st_ld (5 * i + 2) 300 ?_
  rw [t2.1]
  refine st_v (lI (E (5 * i + 2))) iI_l ?_
  refine st_v (iI (5 * i + 3)) (ad (5 * i) 3) ?_
  refine st_ld (5 * i + 3) 300 ?_
  rw [t3.1]
  refine st_v (lI (E (5 * i + 3))) iI_l ?_
  refine st_v (iI (5 * i + 4)) (ad (5 * i) 4) ?_
  refine st_ld (5 * i + 4) 300 ?_
  rw [t4.1]
  exact h g hg
theorem q_150 {base range low start : Int} (hH : hOk base range low start) {E : Nat → Int} {n i : Nat} {tg : Nat → Int32} (hT : tOk E n tg) (hi : i < n) {P : List Int} {g : Nat → Int32} {post : W7 → Prop} (hP : hv g P) {a l : Int} {x : Int64} (a0 : 0 ≤ a) (a1 : a ≤ 2147483647) (b0 : low ≤ l) (b1 : l < low + range) (hl : (P ++ wSpec base range low ((255 - base) / range) a l).length ≤ 5000) (h : ePost E i post (P ++ wSpec base range low ((255 - base) / range) a l)) (hx : x = lI l := by first | rfl | decide) :
    wj_Mo_writeEntry_150 (iI base) (iI range) (iI low) tg (iI (5 * i)) post (lI a) x (iI (P.length : Nat)) g := by
  subst hx
  have hH' := hH
  obtain ⟨e1, e2, e3, e4, e5, e6, e7, e8⟩ := hH'
  have hq1 : 0 ≤ (255 - base) / range := Int.ediv_nonneg (by omega) (by omega)
  have hq2 : (255 - base) / range ≤ 255 - base := Int.ediv_le_self _ (by omega)
  have hr : ¬ iI range = 0 := by
    rw [l0, iI_eq]
    omega
  have s1 := sp_lo hH a0 a1 b0 b1
  unfold wSpec at h hl
  unfold wj_Mo_writeEntry_150 wp_Mo_stepOf
  refine st_v (iI (255 - base)) (sb 255 base) ?_
  refine ⟨hr, ?_⟩
  refine st_v (iI ((255 - base) / range)) iI_div ?_
  refine st_v (lI base) iI_l ?_
  refine st_v (lI (base + l)) (lI_add _ _) ?_
  refine st_v (lI low) iI_l ?_
  refine st_v (lI (base + l - low)) (lI_sub _ _) ?_
  refine st_v (lI range) iI_l ?_
  refine st_v (lI (range * a)) (lI_mul _ _) ?_
  refine st_v (lI (base + l - low + range * a)) (lI_add _ _) ?_
  have last : ¬ (base + l - low + range * a ≤ 255) → ¬ ((255 - base) / range ≤ a ∧ base + l - low + range * (a - (255 - base) / range) ≤ 255) → wj_Mo_writeEntry_263 tg (iI (5 * i)) post (lI a) (iI (P.length : Nat)) g (lI (base + l - low)) := by
    intro q q3
    have e : P ++ 2 :: (uL 5 a ++ [base + l - low]) = (P ++ 2 :: uL 5 a) ++ [base + l - low] := by simp
    rw [if_neg q, if_neg q3, e] at h hl
    unfold wj_Mo_writeEntry_263
    refine q_au hP 2 a (by omega) (by omega) a0 a1 (lm hl) (fun g' hg' => ?_)
    have s2 := sp_lo hH (a := 0) (by omega) (by omega) b0 b1
    refine q_add hg' (base + l - low) hl (fun g' hg' => ?_)
    exact q_275 hT hi hg' h
  refine lc_gt (base + l - low + range * a) 255 (fun q => ?_) (fun q => ?_)
  · refine st_v (lI ((255 - base) / range)) iI_l ?_
    refine lc_lt a ((255 - base) / range) (fun q2 => last (by omega) (by omega)) (fun q2 => ?_)
    have s3 := sp_lo hH (a := a - (255 - base) / range) (by omega) (by omega) b0 b1
    refine st_v (lI range) iI_l ?_
    refine st_v (lI ((255 - base) / range)) iI_l ?_
    refine st_v (lI (a - (255 - base) / range)) (lI_sub _ _) ?_
    refine st_v (lI (range * (a - (255 - base) / range))) (lI_mul _ _) ?_
    refine st_v (lI (base + l - low + range * (a - (255 - base) / range))) (lI_add _ _) ?_
    refine lc_gt (base + l - low + range * (a - (255 - base) / range)) 255 (fun q3 => last (by omega) (by omega)) (fun q3 => ?_)
    have e : P ++ [8, base + l - low + range * (a - (255 - base) / range)] = (P ++ [8]) ++ [base + l - low + range * (a - (255 - base) / range)] := by simp
    rw [if_neg (by omega), if_pos ⟨q2, q3⟩, e] at h hl
    refine q_add hP 8 (lm hl) (fun g' hg' => ?_)
    refine st_v (lI range) iI_l ?_
    refine st_v (lI ((255 - base) / range)) iI_l ?_
    refine st_v (lI (a - (255 - base) / range)) (lI_sub _ _) ?_
    refine st_v (lI (range * (a - (255 - base) / range))) (lI_mul _ _) ?_
    refine st_v (lI (base + l - low + range * (a - (255 - base) / range))) (lI_add _ _) ?_
    refine q_add hg' (base + l - low + range * (a - (255 - base) / range)) hl (fun g' hg' => ?_)
    exact q_275 hT hi hg' h
  · rw [if_pos q] at h hl
    refine st_v (lI range) iI_l ?_
    refine st_v (lI (range * a)) (lI_mul _ _) ?_
    refine st_v (lI (base + l - low + range * a)) (lI_add _ _) ?_
    refine q_add hP (base + l - low + range * a) hl (fun g' hg' => ?_)
    exact q_275 hT hi hg' h
theorem q_84 {base range low start : Int} (hH : hOk base range low start) {E : Nat → Int} {n i : Nat} {tg : Nat → Int32} (hT : tOk E n tg) (hi : i < n) {P : List Int} {g : Nat → Int32} {post : W7 → Prop} (hP : hv g P) {a l : Int} (a0 : 0 ≤ a) (a1 : a ≤ E (5 * i)) (b0 : 0 ≤ l) (b1 : l ≤ 2147483647) (hl : (P ++ wMove base range low ((255 - base) / range) (E (5 * i) - a) (E (5 * i + 2) - l)).length ≤ 5000) (h : ePost E i post (P ++ wMove base range low ((255 - base) / range) (E (5 * i) - a) (E (5 * i + 2) - l))) :
    wj_Mo_writeEntry_84 (iI base) (iI range) (iI low) (lI a) (lI l) tg (iI (5 * i)) post (iI (P.length : Nat)) g := by
  have hH' := hH
  obtain ⟨e1, e2, e3, e4, e5, e6, e7, e8⟩ := hH'
  have hn := hT.1
  have t0 := hT.2.1 (5 * i) (by omega)
  have t2 := hT.2.1 (5 * i + 2) (by omega)
  unfold wMove at h hl
  unfold wj_Mo_writeEntry_84
  refine st_ld (5 * i) 300 ?_
  rw [t0.1]
  refine st_v (lI (E (5 * i))) iI_l ?_
  refine st_v (lI (E (5 * i) - a)) (lI_sub _ _) ?_
  refine st_v (iI (5 * i + 2)) (ad (5 * i) 2) ?_
  refine st_ld (5 * i + 2) 300 ?_
  rw [t2.1]
  refine st_v (lI (E (5 * i + 2))) iI_l ?_
  refine st_v (lI (E (5 * i + 2) - l)) (lI_sub _ _) ?_
  refine st_v (lI low) iI_l ?_
  have far : (E (5 * i + 2) - l < low ∨ low + range ≤ E (5 * i + 2) - l) → wj_Mo_writeEntry_140 (iI base) (iI range) (iI low) tg (iI (5 * i)) post (iI (P.length : Nat)) g (lI (E (5 * i) - a)) (lI (E (5 * i + 2) - l)) := by
    intro q
    have e : P ++ 3 :: (gL 5 (E (5 * i + 2) - l) ++ wSpec base range low ((255 - base) / range) (E (5 * i) - a) 0) = (P ++ 3 :: gL 5 (E (5 * i + 2) - l)) ++ wSpec base range low ((255 - base) / range) (E (5 * i) - a) 0 := by simp
    rw [if_pos q, e] at h hl
    unfold wj_Mo_writeEntry_140
    refine q_as hP 3 (E (5 * i + 2) - l) (by omega) (by omega) (by omega) (by omega) (lm hl) (fun g' hg' => ?_)
    exact q_150 (l := 0) hH hT hi hg' (by omega) (by omega) (by omega) (by omega) hl h
  refine lc_lt (E (5 * i + 2) - l) low (fun q => far (Or.inl q)) (fun q => ?_)
  refine st_v (iI (low + range)) (iI_add _ _) ?_
  refine st_v (lI (low + range)) iI_l ?_
  refine lc_lt (E (5 * i + 2) - l) (low + range) (fun q2 => ?_) (fun q2 => far (Or.inr q2))
  rw [if_neg (by omega)] at h hl
  exact q_150 hH hT hi hP (by omega) (by omega) (by omega) (by omega) hl h
theorem q_62 {base range low start : Int} (hH : hOk base range low start) {E : Nat → Int} {n i : Nat} {tg : Nat → Int32} (hT : tOk E n tg) (hi : i < n) {P : List Int} {g : Nat → Int32} {post : W7 → Prop} (hP : hv g P) {a l s : Int} (a0 : 0 ≤ a) (a1 : a ≤ E (5 * i)) (b0 : 0 ≤ l) (b1 : l ≤ 2147483647) (s0 : 0 ≤ s) (s1 : s ≤ 1) (hl : (P ++ ((if E (5 * i + 4) ≠ s then [6] else []) ++ wMove base range low ((255 - base) / range) (E (5 * i) - a) (E (5 * i + 2) - l))).length ≤ 5000) (h : ePost E i post (P ++ ((if E (5 * i + 4) ≠ s then [6] else []) ++ wMove base range low ((255 - base) / range) (E (5 * i) - a) (E (5 * i + 2) - l)))) :
    wj_Mo_writeEntry_62 (iI base) (iI range) (iI low) (lI a) (lI l) (iI s) tg (iI (5 * i)) post (iI (P.length : Nat)) g := by
  have hn := hT.1
  have t4 := hT.2.1 (5 * i + 4) (by omega)
  unfold wj_Mo_writeEntry_62
  refine st_v (iI (5 * i + 4)) (ad (5 * i) 4) ?_
  refine st_ld (5 * i + 4) 300 ?_
  rw [t4.1]
  refine br_eq (E (5 * i + 4)) s (fun q => ?_) (fun q => ?_)
  · rw [if_neg (fun e => e q)] at h hl
    exact q_84 hH hT hi hP a0 a1 b0 b1 hl h
  · have e : P ++ ([6] ++ wMove base range low ((255 - base) / range) (E (5 * i) - a) (E (5 * i + 2) - l)) = (P ++ [6]) ++ wMove base range low ((255 - base) / range) (E (5 * i) - a) (E (5 * i + 2) - l) := by simp
    rw [if_pos q, e] at h hl
    refine q_add hP 6 (lm hl) (fun g' hg' => ?_)
    exact q_84 hH hT hi hg' a0 a1 b0 b1 hl h
theorem q_31 {base range low start : Int} (hH : hOk base range low start) {E : Nat → Int} {n i : Nat} {tg : Nat → Int32} (hT : tOk E n tg) (hi : i < n) {P : List Int} {g : Nat → Int32} {post : W7 → Prop} (hP : hv g P) {a l c s : Int} (a0 : 0 ≤ a) (a1 : a ≤ E (5 * i)) (b0 : 0 ≤ l) (b1 : l ≤ 2147483647) (c0 : 0 ≤ c) (c1' : c ≤ 2147483647) (s0 : 0 ≤ s) (s1 : s ≤ 1) (hl : (P ++ ((if E (5 * i + 3) ≠ c then 5 :: uL 5 (E (5 * i + 3)) else []) ++ ((if E (5 * i + 4) ≠ s then [6] else []) ++ wMove base range low ((255 - base) / range) (E (5 * i) - a) (E (5 * i + 2) - l)))).length ≤ 5000) (h : ePost E i post (P ++ ((if E (5 * i + 3) ≠ c then 5 :: uL 5 (E (5 * i + 3)) else []) ++ ((if E (5 * i + 4) ≠ s then [6] else []) ++ wMove base range low ((255 - base) / range) (E (5 * i) - a) (E (5 * i + 2) - l))))) :
    wj_Mo_writeEntry_31 (iI base) (iI range) (iI low) (lI a) (lI l) (lI c) (iI s) tg (iI (5 * i)) post (iI (P.length : Nat)) g := by
  have hn := hT.1
  have t3 := hT.2.1 (5 * i + 3) (by omega)
  unfold wj_Mo_writeEntry_31
  refine st_v (iI (5 * i + 3)) (ad (5 * i) 3) ?_
  refine st_ld (5 * i + 3) 300 ?_
  rw [t3.1]
  refine st_v (lI (E (5 * i + 3))) iI_l ?_
  refine lc_eq (E (5 * i + 3)) c (fun q => ?_) (fun q => ?_)
  · rw [if_neg (fun e => e q)] at h hl
    exact q_62 hH hT hi hP a0 a1 b0 b1 s0 s1 hl h
  · rw [if_pos q, ← List.append_assoc] at h hl
    refine st_v (iI (5 * i + 3)) (ad (5 * i) 3) ?_
    refine st_ld (5 * i + 3) 300 ?_
    rw [t3.1]
    refine st_v (lI (E (5 * i + 3))) iI_l ?_
    refine q_au hP 5 (E (5 * i + 3)) (by omega) (by omega) t3.2.1 t3.2.2 (lm hl) (fun g' hg' => ?_)
    exact q_62 hH hT hi hg' a0 a1 b0 b1 s0 s1 hl h
theorem q_ent {base range low start : Int} (hH : hOk base range low start) {E : Nat → Int} {n i : Nat} {tg : Nat → Int32} (hT : tOk E n tg) (hi : i < n) {P : List Int} {g : Nat → Int32} {post : W7 → Prop} (hP : hv g P) {a f l c s : Int} (a0 : 0 ≤ a) (a1 : a ≤ E (5 * i)) (b0 : 0 ≤ l) (b1 : l ≤ 2147483647) (f0 : 0 ≤ f) (f1 : f ≤ 2147483647) (c0 : 0 ≤ c) (c1' : c ≤ 2147483647) (s0 : 0 ≤ s) (s1 : s ≤ 1) (hl : (P ++ wEnt base range low ((255 - base) / range) a f l c s (E (5 * i)) (E (5 * i + 1)) (E (5 * i + 2)) (E (5 * i + 3)) (E (5 * i + 4))).length ≤ 5000) (h : ePost E i post (P ++ wEnt base range low ((255 - base) / range) a f l c s (E (5 * i)) (E (5 * i + 1)) (E (5 * i + 2)) (E (5 * i + 3)) (E (5 * i + 4)))) :
    wp_Mo_writeEntry (iI base) (iI range) (iI low) (lI a) (lI l) (lI f) (lI c) (iI s) (iI (P.length : Nat)) tg g (iI (5 * i)) post := by
  have hn := hT.1
  have t1 := hT.2.1 (5 * i + 1) (by omega)
  unfold wEnt at h hl
  unfold wp_Mo_writeEntry
  refine st_v (iI (5 * i + 1)) (ad (5 * i) 1) ?_
  refine st_ld (5 * i + 1) 300 ?_
  rw [t1.1]
  refine st_v (lI (E (5 * i + 1))) iI_l ?_
  refine lc_eq (E (5 * i + 1)) f (fun q => ?_) (fun q => ?_)
  · rw [if_neg (fun e => e q)] at h hl
    exact q_31 hH hT hi hP a0 a1 b0 b1 c0 c1' s0 s1 hl h
  · rw [if_pos q, ← List.append_assoc] at h hl
    refine st_v (iI (5 * i + 1)) (ad (5 * i) 1) ?_
    refine st_ld (5 * i + 1) 300 ?_
    rw [t1.1]
    refine st_v (lI (E (5 * i + 1))) iI_l ?_
    refine q_au hP 4 (E (5 * i + 1)) (by omega) (by omega) t1.2.1 t1.2.2 (lm hl) (fun g' hg' => ?_)
    exact q_31 hH hT hi hg' a0 a1 b0 b1 c0 c1' s0 s1 hl h
/-! how long a written table is at most -/
theorem len_u (k : Nat) (v : Int) : (uL k v).length ≤ k + 1 := by
  induction k generalizing v with
  | zero => exact Nat.le_refl 1
  | succ k ih =>
    unfold uL
    split
    · have := ih (v / 128)
      rw [List.length_cons]
      omega
    · show 1 ≤ _
      omega
theorem len_g (k : Nat) (v : Int) : (gL k v).length ≤ k + 1 := by
  induction k generalizing v with
  | zero => exact Nat.le_refl 1
  | succ k ih =>
    unfold gL
    split
    · have := ih (v / 128)
      rw [List.length_cons]
      omega
    · show 1 ≤ _
      omega
theorem len_sp (base range low step a l : Int) : (wSpec base range low step a l).length ≤ 8 := by
  unfold wSpec
  have := len_u 5 a
  split
  · show 1 ≤ 8
    omega
  split
  · show 2 ≤ 8
    omega
  · rw [List.length_cons, List.length_append]
    show _ + 1 + 1 ≤ 8
    omega
theorem len_mv (base range low step a l : Int) : (wMove base range low step a l).length ≤ 15 := by
  unfold wMove
  have := len_g 5 l
  have := len_sp base range low step a 0
  have := len_sp base range low step a l
  split
  · rw [List.length_cons, List.length_append]
    omega
  · omega
theorem len_ent (base range low step a f l c s a' f' l' c' s' : Int) : (wEnt base range low step a f l c s a' f' l' c' s').length ≤ 30 := by
  unfold wEnt
  have := len_mv base range low step (a' - a) (l' - l)
  have := len_u 5 f'
  have := len_u 5 c'
  rw [List.length_append, List.length_append, List.length_append]
  have h1 : (if f' ≠ f then 4 :: uL 5 f' else []).length ≤ 7 := by
    split
    · rw [List.length_cons]
      omega
    · exact Nat.zero_le _
  have h2 : (if c' ≠ c then 5 :: uL 5 c' else []).length ≤ 7 := by
    split
    · rw [List.length_cons]
      omega
    · exact Nat.zero_le _
  have h3 : (if s' ≠ s then [(6 : Int)] else []).length ≤ 1 := by
    split
    · exact Nat.le_refl _
    · exact Nat.zero_le _
  omega
theorem len_all (base range low step : Int) (E : Nat → Int) : ∀ (j i : Nat) (a f l c s : Int), (wAll base range low step E j i a f l c s).length ≤ 30 * j := by
  intro j
  induction j with
  | zero =>
    intro i a f l c s
    exact Nat.zero_le _
  | succ j ih =>
    intro i a f l c s
    unfold wAll
    rw [List.length_append]
    have := len_ent base range low step a f l c s (E (5 * i)) (E (5 * i + 1)) (E (5 * i + 2)) (E (5 * i + 3)) (E (5 * i + 4))
    have := ih (i + 1) (E (5 * i)) (E (5 * i + 1)) (E (5 * i + 2)) (E (5 * i + 3)) (E (5 * i + 4))
    omega
theorem len_end (d : Int) : (wEnd d).length ≤ 10 := by
  unfold wEnd
  have := len_u 5 d
  split
  · rw [List.length_cons, List.length_append]
    show _ + 3 + 1 ≤ 10
    omega
  · show 3 ≤ 10
    omega
theorem len_write (base range low step start : Int) (E : Nat → Int) (n : Nat) (hn : n ≤ 60) (e : Int) : (wWrite base range low step start E n e).length ≤ 5000 := by
  unfold wWrite
  rw [List.length_append, List.length_append]
  have := len_all base range low step E n 0 (E 0) 1 1 0 start
  have := len_end (e - E (5 * n - 5))
  have : (wStart (E 0)).length = 7 := rfl
  omega
