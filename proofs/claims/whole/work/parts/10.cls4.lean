/-! writing: the class. hw f P: the bytes P stand in f -/
def hw (f : Nat → Int32) (P : List Int) : Prop := P.length ≤ 600 ∧ ∀ (i : Nat) (v : Int), P[i]? = some v → f i = iI v ∧ 0 ≤ v ∧ v < 256
theorem lg {A B : List Int} (h : 600 < A.length) : 600 < (A ++ B).length := by
  rw [List.length_append]
  omega
theorem at_end {P : List Int} {w v : Int} {i : Nat} (h : (P ++ [w])[i]? = some v) : (i < P.length ∧ P[i]? = some v) ∨ (i = P.length ∧ v = w) := by
  rw [List.getElem?_append] at h
  split at h
  · rename_i hl
    exact Or.inl ⟨hl, h⟩
  · rename_i hl
    rcases Nat.eq_zero_or_pos (i - P.length) with h0 | h0
    · rw [h0] at h
      exact Or.inr ⟨by omega, (Option.some.inj h).symm⟩
    · rw [List.getElem?_eq_none (by show 1 ≤ i - P.length; omega)] at h
      cases h
theorem len1 (P : List Int) (w : Int) : (P ++ [w]).length = P.length + 1 := by rw [List.length_append]; rfl
theorem p_app {P : List Int} {f : Nat → Int32} (hP : hw f P) {x : Int32} (w : Int) {v : Int} {post : (Int32 × (Nat → Int32)) → Prop} {postX : Nat × (Int32 × (Nat → Int32)) → Prop} (h1 : ∀ f', hw f' (P ++ [v]) → post (iI (((P ++ [v]).length : Nat) : Int), f')) (h2 : 600 < (P ++ [v]).length → ∀ u, postX (5, u)) (hv : w % 256 = v := by omega) (hx : x = iI w := by first | rfl | decide) : wp_By_append (iI (P.length : Nat)) f x post postX := by
  subst hv
  have e := len1 P (w % 256)
  refine p_append w hP.1 (fun q => ?_) (fun q => h2 (by omega) _) hx
  have hh : hw (upd f P.length (iI (w % 256))) (P ++ [w % 256]) := ⟨by omega, fun i v hi => by
    rcases at_end hi with ⟨q1, q2⟩ | ⟨q1, q2⟩
    · unfold upd
      rw [if_neg (by omega)]
      exact hP.2 i v q2
    · unfold upd
      rw [if_pos q1, q2]
      exact ⟨rfl, by omega, by omega⟩⟩
  have h := h1 _ hh
  rw [e] at h
  exact h
def ub : Nat → Int
  | 0 => 1
  | 1 => 8
  | 2 => 1024
  | 3 => 131072
  | 4 => 16777216
  | _ => 2147483648
theorem ub_ok (k : Nat) : 1 ≤ ub k ∧ ub k ≤ 2147483648 := by
  unfold ub
  split <;> omega
theorem ub_dn (k : Nat) (h : k < 5) {v : Int} (h1 : -(ub (k + 1)) ≤ v) (h2 : v < ub (k + 1)) : -(ub k) ≤ v / 128 ∧ v / 128 < ub k := by
  rcases (show k = 0 ∨ k = 1 ∨ k = 2 ∨ k = 3 ∨ k = 4 by omega) with rfl | rfl | rfl | rfl | rfl
  · have e1 : ub (0 + 1) = 8 := rfl
    have e2 : ub 0 = 1 := rfl
    omega
  · have e1 : ub (1 + 1) = 1024 := rfl
    have e2 : ub 1 = 8 := rfl
    omega
  · have e1 : ub (2 + 1) = 131072 := rfl
    have e2 : ub 2 = 1024 := rfl
    omega
  · have e1 : ub (3 + 1) = 16777216 := rfl
    have e2 : ub 3 = 131072 := rfl
    omega
  · have e1 : ub (4 + 1) = 2147483648 := rfl
    have e2 : ub 4 = 16777216 := rfl
    omega
theorem p_wuL {post : (Int32 × (Nat → Int32)) → Prop} {postX : Nat × (Int32 × (Nat → Int32)) → Prop} : ∀ (k : Nat) (P : List Int) (f : Nat → Int32) (v gi : Int), k ≤ 5 → hw f P → 0 ≤ v → v < ub k → gi = 5 - k → (∀ f', hw f' (P ++ uL k v) → post (iI (((P ++ uL k v).length : Nat) : Int), f')) → (600 < (P ++ uL k v).length → ∀ u, postX (5, u)) → wl_Wr_writeUnsigned_4 post postX (k + 1) f (iI (P.length : Nat)) (iI v) (iI gi) := by
  intro k
  induction k with
  | zero =>
    intro P f v gi hk hP v0 v1 hg h1 h2
    have e1 : ub 0 = 1 := rfl
    unfold wl_Wr_writeUnsigned_4
    refine br_le 5 gi (fun _ => ?_) (fun q => by omega)
    exact p_app hP v (fun f' hf' => h1 f' hf') (fun q u => h2 q _)
  | succ k ih =>
    intro P f v gi hk hP v0 v1 hg h1 h2
    have hu := ub_ok (k + 1)
    unfold wl_Wr_writeUnsigned_4
    refine br_le 5 gi (fun q => by omega) (fun _ => ?_)
    unfold uL at h1 h2
    refine br_le v 127 (fun q => ?_) (fun q => ?_)
    · rw [if_neg (by omega)] at h1 h2
      exact p_app hP v (fun f' hf' => h1 f' hf') (fun q u => h2 q _)
    · rw [if_pos q] at h1 h2
      have e : P ++ (v % 128 + 128) :: uL k (v / 128) = (P ++ [v % 128 + 128]) ++ uL k (v / 128) := by simp
      rw [e] at h1 h2
      refine st_v (iI (v % 128)) (iI_127 v) ?_
      refine st_v (iI (v % 128 + 128)) iI_or ?_
      refine p_app hP (v % 128 + 128) (fun f' hf' => ?_) (fun q u => h2 (lg q) _)
      refine st_v (iI (v / 128)) iI_sh7 ?_
      refine st_v (iI (gi + 1)) (ad gi 1) ?_
      have hd := ub_dn k (by omega) (show -(ub (k + 1)) ≤ v by omega) v1
      exact ih _ f' (v / 128) (gi + 1) (by omega) hf' (by omega) hd.2 (by omega) h1 h2
theorem p_wu {P : List Int} {f : Nat → Int32} (hP : hw f P) {x : Int32} (v : Int) (v0 : 0 ≤ v) (v1 : v ≤ 2147483647) {post : (Int32 × (Nat → Int32)) → Prop} {postX : Nat × (Int32 × (Nat → Int32)) → Prop} (h1 : ∀ f', hw f' (P ++ uL 5 v) → post (iI (((P ++ uL 5 v).length : Nat) : Int), f')) (h2 : 600 < (P ++ uL 5 v).length → ∀ u, postX (5, u)) (hx : x = iI v := by first | rfl | decide) : wp_Wr_writeUnsigned (iI (P.length : Nat)) f x post postX := by
  subst hx
  unfold wp_Wr_writeUnsigned
  refine ⟨6, ?_⟩
  rw [l0]
  exact p_wuL 5 P f v 0 (by omega) hP v0 (show v < 2147483648 by omega) (by omega) h1 h2
theorem p_wsL {post : (Int32 × (Nat → Int32)) → Prop} {postX : Nat × (Int32 × (Nat → Int32)) → Prop} : ∀ (k : Nat) (P : List Int) (f : Nat → Int32) (v gi : Int), k ≤ 5 → hw f P → -(ub k) ≤ v → v < ub k → gi = 5 - k → (∀ f', hw f' (P ++ gL k v) → post (iI (((P ++ gL k v).length : Nat) : Int), f')) → (600 < (P ++ gL k v).length → ∀ u, postX (5, u)) → wl_Wr_writeSigned_4 post postX (k + 1) f (iI (P.length : Nat)) (iI v) (iI gi) := by
  intro k
  induction k with
  | zero =>
    intro P f v gi hk hP v0 v1 hg h1 h2
    have e1 : ub 0 = 1 := rfl
    unfold wl_Wr_writeSigned_4
    refine br_le 5 gi (fun _ => ?_) (fun q => by omega)
    refine st_v (iI (v % 128)) (iI_127 v) ?_
    exact p_app hP (v % 128) (fun f' hf' => h1 f' hf') (fun q u => h2 q _)
  | succ k ih =>
    intro P f v gi hk hP v0 v1 hg h1 h2
    have hu := ub_ok (k + 1)
    unfold wl_Wr_writeSigned_4
    refine br_le 5 gi (fun q => by omega) (fun _ => ?_)
    unfold gL at h1 h2
    have e : P ++ (v % 128 + 128) :: gL k (v / 128) = (P ++ [v % 128 + 128]) ++ gL k (v / 128) := by simp
    have hd := ub_dn k (by omega) v0 v1
    refine br_lt v (-64) (fun q => ?_) (fun q => ?_)
    · rw [if_pos (Or.inl q), e] at h1 h2
      refine st_v (iI (v % 128)) (iI_127 v) ?_
      refine st_v (iI (v % 128 + 128)) iI_or ?_
      refine p_app hP (v % 128 + 128) (fun f' hf' => ?_) (fun q u => h2 (lg q) _)
      refine st_v (iI (v / 128)) iI_sh7 ?_
      refine st_v (iI (gi + 1)) (ad gi 1) ?_
      exact ih _ f' (v / 128) (gi + 1) (by omega) hf' hd.1 hd.2 (by omega) h1 h2
    · refine br_le v 63 (fun q => ?_) (fun q => ?_)
      · rw [if_neg (by omega)] at h1 h2
        refine st_v (iI (v % 128)) (iI_127 v) ?_
        exact p_app hP (v % 128) (fun f' hf' => h1 f' hf') (fun q u => h2 q _)
      · rw [if_pos (Or.inr q), e] at h1 h2
        refine st_v (iI (v % 128)) (iI_127 v) ?_
        refine st_v (iI (v % 128 + 128)) iI_or ?_
        refine p_app hP (v % 128 + 128) (fun f' hf' => ?_) (fun q u => h2 (lg q) _)
        refine st_v (iI (v / 128)) iI_sh7 ?_
        refine st_v (iI (gi + 1)) (ad gi 1) ?_
        exact ih _ f' (v / 128) (gi + 1) (by omega) hf' hd.1 hd.2 (by omega) h1 h2
theorem p_ws {P : List Int} {f : Nat → Int32} (hP : hw f P) (v : Int) (v0 : -2147483648 ≤ v) (v1 : v ≤ 2147483647) {post : (Int32 × (Nat → Int32)) → Prop} {postX : Nat × (Int32 × (Nat → Int32)) → Prop} (h1 : ∀ f', hw f' (P ++ gL 5 v) → post (iI (((P ++ gL 5 v).length : Nat) : Int), f')) (h2 : 600 < (P ++ gL 5 v).length → ∀ u, postX (5, u)) : wp_Wr_writeSigned (iI (P.length : Nat)) f (iI v) post postX := by
  unfold wp_Wr_writeSigned
  refine ⟨6, ?_⟩
  rw [l0]
  exact p_wsL 5 P f v 0 (by omega) hP (show -2147483648 ≤ v by omega) (show v < 2147483648 by omega) (by omega) h1 h2
def sB : Nat → Nat → Int → List Int
  | 0, _, _ => []
  | j + 1, i, v => (v / p8 i % 256) :: sB j (i + 1) v
theorem p_stL {a0 : Int32} {v : Int} (v0 : 0 ≤ v) (v1 : v ≤ 2147483647) {post : (Int32 × Int32 × (Nat → Int32)) → Prop} {postX : Nat × (Int32 × Int32 × (Nat → Int32)) → Prop} : ∀ (j i : Nat) (P : List Int) (f : Nat → Int32), i + j = 4 → hw f P → (∀ f', hw f' (P ++ sB j i v) → post (iI v, iI (((P ++ sB j i v).length : Nat) : Int), f')) → (600 < (P ++ sB j i v).length → ∀ u, postX (5, u)) → wl_Wr_writeStart_26 a0 (iI v) post postX (j + 1) f (iI (P.length : Nat)) (iI i) := by
  intro j
  induction j with
  | zero =>
    intro i P f hi hP h1 h2
    unfold wl_Wr_writeStart_26
    refine br_le 4 i (fun _ => ?_) (fun q => by omega)
    have e : P ++ sB 0 i v = P := List.append_nil P
    rw [e] at h1
    exact h1 f hP
  | succ j ih =>
    intro i P f hi hP h1 h2
    unfold wl_Wr_writeStart_26
    refine br_le 4 i (fun q => by omega) (fun _ => ?_)
    have e : P ++ sB (j + 1) i v = (P ++ [v / p8 i % 256]) ++ sB j (i + 1) v := by
      show P ++ (v / p8 i % 256) :: sB j (i + 1) v = _
      simp
    rw [e] at h1 h2
    refine st_v (iI (8 * (i : Int))) (ml 8 i) ?_
    refine st_v (iI (v / p8 i)) (iI_sh8 i (by omega)) ?_
    refine p_app hP (v / p8 i) (fun f' hf' => ?_) (fun q u => h2 (lg q) _) rfl
    refine st_v (iI ((i + 1 : Nat) : Int)) (ad i 1) ?_
    exact ih (i + 1) _ f' (by omega) hf' h1 h2
theorem sB_4 (v : Int) : [0, 5, 2] ++ sB 4 0 v = wStart v := by
  show [0, 5, 2, v / 1 % 256, v / 256 % 256, v / 65536 % 256, v / 16777216 % 256] = _
  rw [Int.ediv_one]
  rfl
theorem p_st {P : List Int} {f : Nat → Int32} (hP : hw f P) {a0 : Int32} (v : Int) (v0 : 0 ≤ v) (v1 : v ≤ 2147483647) {post : (Int32 × Int32 × (Nat → Int32)) → Prop} {postX : Nat × (Int32 × Int32 × (Nat → Int32)) → Prop} (h1 : ∀ f', hw f' (P ++ wStart v) → post (iI v, iI (((P ++ wStart v).length : Nat) : Int), f')) (h2 : 600 < (P ++ wStart v).length → ∀ u, postX (5, u)) : wp_Wr_writeStart a0 (iI (P.length : Nat)) f (iI v) post postX := by
  have e : P ++ wStart v = (((P ++ [0]) ++ [5]) ++ [2]) ++ sB 4 0 v := by rw [← sB_4]; simp
  rw [e] at h1 h2
  unfold wp_Wr_writeStart
  refine p_app hP 0 (fun f' hf' => ?_) (fun q u => h2 (lg (lg (lg q))) _)
  refine p_app hf' 5 (fun f' hf' => ?_) (fun q u => h2 (lg (lg q)) _)
  refine p_app hf' 2 (fun f' hf' => ?_) (fun q u => h2 (lg q) _)
  refine ⟨5, ?_⟩
  have y : (0 : Int32) = iI ((0 : Nat) : Int) := by decide
  rw [y]
  exact p_stL v0 v1 4 0 _ f' (by omega) hf' h1 h2
theorem p_file {P : List Int} {f : Nat → Int32} (hP : hw f P) (o w : Int) (o0 : 0 ≤ o) (o1 : o ≤ 2147483647) (w0 : 0 ≤ w) (w1 : w ≤ 2147483647) {post : (Int32 × Int32 × (Nat → Int32)) → Prop} {postX : Nat × (Int32 × Int32 × (Nat → Int32)) → Prop} (h1 : ∀ f', hw f' (P ++ (if w ≠ o then 4 :: uL 5 w else [])) → post (iI w, iI (((P ++ (if w ≠ o then 4 :: uL 5 w else [])).length : Nat) : Int), f')) (h2 : 600 < (P ++ (if w ≠ o then 4 :: uL 5 w else [])).length → ∀ u, postX (5, u)) : wp_Wr_writeFile (iI o) (iI (P.length : Nat)) f (iI w) post postX := by
  unfold wp_Wr_writeFile
  refine br_eq w o (fun q => ?_) (fun q => ?_)
  · rw [if_neg (fun e => e q), List.append_nil] at h1
    rw [← q]
    exact h1 f hP
  · have e : P ++ 4 :: uL 5 w = (P ++ [4]) ++ uL 5 w := by simp
    rw [if_pos q, e] at h1 h2
    refine p_app hP 4 (fun f' hf' => ?_) (fun q u => h2 (lg q) _)
    exact p_wu hf' w w0 w1 h1 (fun q u => h2 q _)
theorem p_col {P : List Int} {f : Nat → Int32} (hP : hw f P) (o w : Int) (o0 : 0 ≤ o) (o1 : o ≤ 2147483647) (w0 : 0 ≤ w) (w1 : w ≤ 2147483647) {post : (Int32 × Int32 × (Nat → Int32)) → Prop} {postX : Nat × (Int32 × Int32 × (Nat → Int32)) → Prop} (h1 : ∀ f', hw f' (P ++ (if w ≠ o then 5 :: uL 5 w else [])) → post (iI w, iI (((P ++ (if w ≠ o then 5 :: uL 5 w else [])).length : Nat) : Int), f')) (h2 : 600 < (P ++ (if w ≠ o then 5 :: uL 5 w else [])).length → ∀ u, postX (5, u)) : wp_Wr_writeColumn (iI o) (iI (P.length : Nat)) f (iI w) post postX := by
  unfold wp_Wr_writeColumn
  refine br_eq w o (fun q => ?_) (fun q => ?_)
  · rw [if_neg (fun e => e q), List.append_nil] at h1
    rw [← q]
    exact h1 f hP
  · have e : P ++ 5 :: uL 5 w = (P ++ [5]) ++ uL 5 w := by simp
    rw [if_pos q, e] at h1 h2
    refine p_app hP 5 (fun f' hf' => ?_) (fun q u => h2 (lg q) _)
    exact p_wu hf' w w0 w1 h1 (fun q u => h2 q _)
theorem p_stm {P : List Int} {f : Nat → Int32} (hP : hw f P) (o w : Int) (o0 : 0 ≤ o) (o1 : o ≤ 2147483647) (w0 : 0 ≤ w) (w1 : w ≤ 2147483647) {post : (Int32 × Int32 × (Nat → Int32)) → Prop} {postX : Nat × (Int32 × Int32 × (Nat → Int32)) → Prop} (h1 : ∀ f', hw f' (P ++ (if w ≠ o then [6] else [])) → post (iI w, iI (((P ++ (if w ≠ o then [6] else [])).length : Nat) : Int), f')) (h2 : 600 < (P ++ (if w ≠ o then [6] else [])).length → ∀ u, postX (5, u)) : wp_Wr_writeStatement (iI o) (iI (P.length : Nat)) f (iI w) post postX := by
  unfold wp_Wr_writeStatement
  refine br_eq w o (fun q => ?_) (fun q => ?_)
  · rw [if_neg (fun e => e q), List.append_nil] at h1
    rw [← q]
    exact h1 f hP
  · rw [if_pos q] at h1 h2
    exact p_app hP 6 (fun f' hf' => h1 f' hf') (fun q u => h2 q _)
theorem p_special {base range low start : Int} (hH : hOk base range low start) {a l : Int} {x y : Int32} (a0 : 0 ≤ a) (a1 : a ≤ 2147483647) (b0 : low ≤ l) (b1 : l < low + range) {post : Int64 → Unit → Prop} (h : post (lI (base + l - low + range * a)) ()) (hx : x = iI a := by first | rfl | decide) (hy : y = iI l := by first | rfl | decide) : wp_Wr_special (iI base) (iI range) (iI low) x y post := by
  subst hx hy
  obtain ⟨e1, e2, e3, e4, e5, e6, e7, e8⟩ := hH
  unfold wp_Wr_special
  refine st_v (iI (base + l)) (iI_add _ _) ?_
  refine st_v (iI (base + l - low)) (iI_sub _ _) ?_
  refine st_v (lI (base + l - low)) iI_l ?_
  refine st_v (lI range) iI_l ?_
  refine st_v (lI a) iI_l ?_
  refine st_v (lI (range * a)) (lI_mul _ _) ?_
  exact st_v (lI (base + l - low + range * a)) (lI_add _ _) h
theorem sp_lo {base range low start a l : Int} (hH : hOk base range low start) (a0 : 0 ≤ a) (a1 : a ≤ 2147483647) (b0 : low ≤ l) (b1 : l < low + range) : 0 ≤ base + l - low + range * a ∧ base + l - low + range * a < 100000000000 := by
  obtain ⟨e1, e2, e3, e4, e5, e6, e7, e8⟩ := hH
  have h1 : 0 ≤ range * a := Int.mul_nonneg (by omega) a0
  have h2 : range * a ≤ 30 * a := Int.mul_le_mul_of_nonneg_right e4 a0
  omega
theorem p_isB {v : Int} (v0 : 0 ≤ v) (v1 : v < 100000000000) {post : Int32 → Unit → Prop} (h1 : v ≤ 255 → post 1 ()) (h2 : 255 < v → post 0 ()) : wp_Wr_isByte (lI v) post := by
  unfold wp_Wr_isByte
  exact lc_gt v 255 (fun q => h2 q) (fun q => h1 q)
theorem p_wsp {base range low start : Int} (hH : hOk base range low start) {P : List Int} {f : Nat → Int32} (hP : hw f P) {a l : Int} {y : Int32} (a0 : 0 ≤ a) (a1 : a ≤ 2147483647) (b0 : low ≤ l) (b1 : l < low + range) {post : (Int32 × (Nat → Int32)) → Prop} {postX : Nat × (Int32 × (Nat → Int32)) → Prop} (h1 : ∀ f', hw f' (P ++ wSpec base range low ((255 - base) / range) a l) → post (iI (((P ++ wSpec base range low ((255 - base) / range) a l).length : Nat) : Int), f')) (h2 : 600 < (P ++ wSpec base range low ((255 - base) / range) a l).length → ∀ u, postX (5, u)) (hy : y = iI l := by first | rfl | decide) : wp_Wr_writeSpecial (iI base) (iI range) (iI low) (iI ((255 - base) / range)) (iI (P.length : Nat)) f (iI a) y post postX := by
  subst hy
  have hH' := hH
  obtain ⟨e1, e2, e3, e4, e5, e6, e7, e8⟩ := hH'
  have hq1 : 0 ≤ (255 - base) / range := Int.ediv_nonneg (by omega) (by omega)
  have hq2 : (255 - base) / range ≤ 255 - base := Int.ediv_le_self _ (by omega)
  have s1 := sp_lo hH a0 a1 b0 b1
  have s2 := sp_lo hH (a := 0) (by omega) (by omega) b0 b1
  unfold wSpec at h1 h2
  unfold wp_Wr_writeSpecial
  refine p_special hH a0 a1 b0 b1 ?_
  refine p_isB s1.1 s1.2 (fun q => ?_) (fun q => ?_)
  · rw [if_pos q] at h1 h2
    refine ⟨fun _ => ?_, fun q => absurd q (by decide)⟩
    refine p_special hH a0 a1 b0 b1 ?_
    refine st_v (iI (base + l - low + range * a)) (lI_i _) ?_
    exact p_app hP (base + l - low + range * a) (fun f' hf' => h1 f' hf') (fun q u => h2 q _)
  · rw [if_neg (by omega)] at h1 h2
    refine ⟨fun q => absurd rfl q, fun _ => ?_⟩
    have last : ¬ ((255 - base) / range ≤ a ∧ base + l - low + range * (a - (255 - base) / range) ≤ 255) → wj_Wr_writeSpecial_67 (iI base) (iI range) (iI low) (iI (P.length : Nat)) f (iI a) (iI l) post postX := by
      intro q3
      have e : P ++ 2 :: (uL 5 a ++ [base + l - low]) = ((P ++ [2]) ++ uL 5 a) ++ [base + l - low] := by simp
      rw [if_neg q3, e] at h1 h2
      unfold wj_Wr_writeSpecial_67
      refine p_app hP 2 (fun f' hf' => ?_) (fun q u => h2 (lg (lg q)) _)
      refine p_wu hf' a a0 a1 (fun f' hf' => ?_) (fun q u => h2 (lg q) _)
      refine p_special (a := 0) hH (by omega) (by omega) b0 b1 ?_
      have e5 : base + l - low + range * 0 = base + l - low := by omega
      rw [e5]
      refine st_v (iI (base + l - low)) (lI_i _) ?_
      exact p_app hf' (base + l - low) (fun f' hf' => h1 f' hf') (fun q u => h2 q _)
    refine br_lt a ((255 - base) / range) (fun q2 => last (by omega)) (fun q2 => ?_)
    have s3 := sp_lo hH (a := a - (255 - base) / range) (by omega) (by omega) b0 b1
    refine st_v (iI (a - (255 - base) / range)) (iI_sub _ _) ?_
    refine p_special (a := a - (255 - base) / range) hH (by omega) (by omega) b0 b1 ?_
    refine p_isB s3.1 s3.2 (fun q3 => ?_) (fun q3 => ?_)
    · have e : P ++ [8, base + l - low + range * (a - (255 - base) / range)] = (P ++ [8]) ++ [base + l - low + range * (a - (255 - base) / range)] := by simp
      rw [if_pos ⟨q2, q3⟩, e] at h1 h2
      refine ⟨fun q => absurd q (by decide), fun _ => ?_⟩
      refine p_app hP 8 (fun f' hf' => ?_) (fun q u => h2 (lg q) _)
      refine st_v (iI (a - (255 - base) / range)) (iI_sub _ _) ?_
      refine p_special (a := a - (255 - base) / range) hH (by omega) (by omega) b0 b1 ?_
      refine st_v (iI (base + l - low + range * (a - (255 - base) / range))) (lI_i _) ?_
      exact p_app hf' (base + l - low + range * (a - (255 - base) / range)) (fun f' hf' => h1 f' hf') (fun q u => h2 q _)
    · exact ⟨fun _ => last (by omega), fun q => absurd rfl q⟩
theorem p_move {base range low start : Int} (hH : hOk base range low start) {P : List Int} {f : Nat → Int32} (hP : hw f P) {a l a' l' : Int} (a0 : 0 ≤ a) (a1 : a ≤ a') (a2 : a' ≤ 2147483647) (l0' : 0 ≤ l) (l1' : l ≤ 2147483647) (l2 : 0 ≤ l') (l3 : l' ≤ 2147483647) {post : (Int32 × Int32 × Int32 × (Nat → Int32)) → Prop} {postX : Nat × (Int32 × Int32 × Int32 × (Nat → Int32)) → Prop} (h1 : ∀ f', hw f' (P ++ wMove base range low ((255 - base) / range) (a' - a) (l' - l)) → post (iI a', iI l', iI (((P ++ wMove base range low ((255 - base) / range) (a' - a) (l' - l)).length : Nat) : Int), f')) (h2 : 600 < (P ++ wMove base range low ((255 - base) / range) (a' - a) (l' - l)).length → ∀ u, postX (5, u)) :
    wp_Wr_writeMove (iI a) (iI l) (iI base) (iI range) (iI low) (iI ((255 - base) / range)) (iI (P.length : Nat)) f (iI a') (iI l') post postX := by
  have hH' := hH
  obtain ⟨e1, e2, e3, e4, e5, e6, e7, e8⟩ := hH'
  unfold wMove at h1 h2
  unfold wp_Wr_writeMove
  refine st_v (iI (l' - l)) (iI_sub _ _) ?_
  have far : (l' - l < low ∨ low + range ≤ l' - l) → wj_Wr_writeMove_37 (iI a) (iI l) (iI base) (iI range) (iI low) (iI ((255 - base) / range)) (iI (P.length : Nat)) f (iI a') (iI l') post postX (iI (l' - l)) := by
    intro q
    have e : P ++ 3 :: (gL 5 (l' - l) ++ wSpec base range low ((255 - base) / range) (a' - a) 0) = ((P ++ [3]) ++ gL 5 (l' - l)) ++ wSpec base range low ((255 - base) / range) (a' - a) 0 := by simp
    rw [if_pos q, e] at h1 h2
    unfold wj_Wr_writeMove_37
    refine p_app hP 3 (fun f' hf' => ?_) (fun q u => h2 (lg (lg q)) _)
    refine p_ws hf' (l' - l) (by omega) (by omega) (fun f' hf' => ?_) (fun q u => h2 (lg q) _)
    refine st_v (iI (a' - a)) (iI_sub _ _) ?_
    exact p_wsp (l := 0) hH hf' (by omega) (by omega) (by omega) (by omega) (fun f' hf' => h1 f' hf') (fun q u => h2 q _)
  refine br_lt (l' - l) low (fun q => far (Or.inl q)) (fun q => ?_)
  refine st_v (iI (low + range)) (iI_add _ _) ?_
  refine br_lt (l' - l) (low + range) (fun q2 => ?_) (fun q2 => far (Or.inr q2))
  rw [if_neg (by omega)] at h1 h2
  refine st_v (iI (a' - a)) (iI_sub _ _) ?_
  exact p_wsp hH hP (by omega) (by omega) (by omega) (by omega) (fun f' hf' => h1 f' hf') (fun q u => h2 q _)
theorem p_wend {P : List Int} {f : Nat → Int32} (hP : hw f P) {a e : Int} (a0 : 0 ≤ a) (a1 : a ≤ e) (a2 : e ≤ 2147483647) {post : (Int32 × (Nat → Int32)) → Prop} {postX : Nat × (Int32 × (Nat → Int32)) → Prop} (h1 : ∀ f', hw f' (P ++ wEnd (e - a)) → post (iI (((P ++ wEnd (e - a)).length : Nat) : Int), f')) (h2 : 600 < (P ++ wEnd (e - a)).length → ∀ u, postX (5, u)) : wp_Wr_writeEnd (iI a) (iI (P.length : Nat)) f (iI e) post postX := by
  unfold wEnd at h1 h2
  unfold wp_Wr_writeEnd
  refine br_eq e a (fun q => ?_) (fun q => ?_)
  · have e9 : P ++ [0, 1, 1] = ((P ++ [0]) ++ [1]) ++ [1] := by simp
    rw [if_neg (by omega), e9] at h1 h2
    refine p_app hP 0 (fun f' hf' => ?_) (fun q u => h2 (lg (lg q)) _)
    refine p_app hf' 1 (fun f' hf' => ?_) (fun q u => h2 (lg q) _)
    exact p_app hf' 1 (fun f' hf' => h1 f' hf') (fun q u => h2 q _)
  · have e9 : P ++ 2 :: (uL 5 (e - a) ++ [0, 1, 1]) = ((((P ++ [2]) ++ uL 5 (e - a)) ++ [0]) ++ [1]) ++ [1] := by simp
    rw [if_pos (by omega), e9] at h1 h2
    refine p_app hP 2 (fun f' hf' => ?_) (fun q u => h2 (lg (lg (lg (lg q)))) _)
    refine st_v (iI (e - a)) (iI_sub _ _) ?_
    refine p_wu hf' (e - a) (by omega) (by omega) (fun f' hf' => ?_) (fun q u => h2 (lg (lg (lg q))) _)
    refine p_app hf' 0 (fun f' hf' => ?_) (fun q u => h2 (lg (lg q)) _)
    refine p_app hf' 1 (fun f' hf' => ?_) (fun q u => h2 (lg q) _)
    exact p_app hf' 1 (fun f' hf' => h1 f' hf') (fun q u => h2 q _)
/-- n entries E lie in g -/
def tOk (E : Nat → Int) (n : Nat) (g : Nat → Int32) : Prop := n ≤ 60 ∧ (∀ q, q < 5 * n → g q = iI (E q) ∧ 0 ≤ E q ∧ E q ≤ 2147483647) ∧ (∀ i, i < n → E (5 * i + 4) ≤ 1) ∧ (∀ i, i + 1 < n → E (5 * i) < E (5 * i + 5))
abbrev M7 := Int32 × Int32 × Int32 × Int32 × Int32 × Int32 × (Nat → Int32)
theorem p_wallL {base range low start : Int} (hH : hOk base range low start) {E : Nat → Int} {n : Nat} {tg : Nat → Int32} (hT : tOk E n tg) {e : Int} (h0 : 0 < n) (he0 : E (5 * n - 5) ≤ e) (he1 : e ≤ 2147483647) {post : M7 → Prop} {postX : Nat × M7 → Prop} : ∀ (j i : Nat) (P : List Int) (f : Nat → Int32) (a fi l c s : Int), i + j = n → hw f P → 0 ≤ a → (i < n → a ≤ E (5 * i)) → (j = 0 → a = E (5 * n - 5)) → 0 ≤ fi → fi ≤ 2147483647 → 0 ≤ l → l ≤ 2147483647 → 0 ≤ c → c ≤ 2147483647 → 0 ≤ s → s ≤ 1 →
    (∀ f' w1 w2 w3 w4 w5, hw f' (P ++ (wAll base range low ((255 - base) / range) E j i a fi l c s ++ wEnd (e - E (5 * n - 5)))) → post (w1, w2, w3, w4, w5, iI (((P ++ (wAll base range low ((255 - base) / range) E j i a fi l c s ++ wEnd (e - E (5 * n - 5)))).length : Nat) : Int), f')) →
    (600 < (P ++ (wAll base range low ((255 - base) / range) E j i a fi l c s ++ wEnd (e - E (5 * n - 5)))).length → ∀ u, postX (5, u)) →
    wl_Wr_writeAll_12 (iI base) (iI range) (iI low) (iI ((255 - base) / range)) (iI n) tg (iI e) post postX (j + 1) f (iI a) (iI fi) (iI l) (iI c) (iI s) (iI (P.length : Nat)) (iI i) := by
  have hn := hT.1
  intro j
  induction j with
  | zero =>
    intro i P f a fi l c s hi hP a0 _ ha _ _ _ _ _ _ _ _ h1 h2
    have ha := ha rfl
    unfold wl_Wr_writeAll_12
    refine br_le n i (fun _ => ?_) (fun q => by omega)
    rw [← ha] at h1 h2
    exact p_wend hP a0 (by omega) he1 (fun f' hf' => h1 f' _ _ _ _ _ hf') (fun q u => h2 q _)
  | succ j ih =>
    intro i P f a fi l c s hi hP a0 ha _ f0 f1 l0' l1' c0 c1' s0 s1 h1 h2
    have ha := ha (by omega)
    unfold wl_Wr_writeAll_12
    refine br_le n i (fun q => by omega) (fun _ => ?_)
    have t0 := hT.2.1 (5 * i) (by omega)
    have t1 := hT.2.1 (5 * i + 1) (by omega)
    have t2 := hT.2.1 (5 * i + 2) (by omega)
    have t3 := hT.2.1 (5 * i + 3) (by omega)
    have t4 := hT.2.1 (5 * i + 4) (by omega)
    have t5 := hT.2.2.1 i (by omega)
    have e9 : P ++ (wAll base range low ((255 - base) / range) E (j + 1) i a fi l c s ++ wEnd (e - E (5 * n - 5))) =
        (((P ++ (if E (5 * i + 1) ≠ fi then 4 :: uL 5 (E (5 * i + 1)) else [])) ++ (if E (5 * i + 3) ≠ c then 5 :: uL 5 (E (5 * i + 3)) else [])) ++ (if E (5 * i + 4) ≠ s then [6] else [])) ++ wMove base range low ((255 - base) / range) (E (5 * i) - a) (E (5 * i + 2) - l) ++ (wAll base range low ((255 - base) / range) E j (i + 1) (E (5 * i)) (E (5 * i + 1)) (E (5 * i + 2)) (E (5 * i + 3)) (E (5 * i + 4)) ++ wEnd (e - E (5 * n - 5))) := by
      show P ++ ((wEnt base range low ((255 - base) / range) a fi l c s _ _ _ _ _ ++ wAll base range low ((255 - base) / range) E j (i + 1) _ _ _ _ _) ++ _) = _
      unfold wEnt
      simp only [List.append_assoc]
    rw [e9] at h1 h2
    refine p_Ta_get i 1 (by omega) ?_
    rw [t1.1]
    refine p_file hP fi _ f0 f1 t1.2.1 t1.2.2 (fun f' hf' => ?_) (fun q u => h2 (lg (lg (lg (lg q)))) _)
    refine p_Ta_get i 3 (by omega) ?_
    rw [t3.1]
    refine p_col hf' c _ c0 c1' t3.2.1 t3.2.2 (fun f' hf' => ?_) (fun q u => h2 (lg (lg (lg q))) _)
    refine p_Ta_get i 4 (by omega) ?_
    rw [t4.1]
    refine p_stm hf' s _ s0 (by omega) t4.2.1 t4.2.2 (fun f' hf' => ?_) (fun q u => h2 (lg (lg q)) _)
    refine p_Ta_get i 0 (by omega) ?_
    rw [show tg (5 * i + 0) = iI (E (5 * i)) from t0.1]
    refine p_Ta_get i 2 (by omega) ?_
    rw [t2.1]
    refine p_move hH hf' a0 ha t0.2.2 l0' l1' t2.2.1 t2.2.2 (fun f' hf' => ?_) (fun q u => h2 (lg q) _)
    refine st_v (iI ((i + 1 : Nat) : Int)) (ad i 1) ?_
    refine ih (i + 1) _ f' _ _ _ _ _ (by omega) hf' t0.2.1 (fun q => ?_) (fun q => ?_) t1.2.1 t1.2.2 t2.2.1 t2.2.2 t3.2.1 t3.2.2 t4.2.1 t5 h1 h2
    · have := hT.2.2.2 i (by omega)
      have e7 : 5 * (i + 1) = 5 * i + 5 := by omega
      rw [e7]
      omega
    · have e7 : 5 * n - 5 = 5 * i := by omega
      rw [e7]
theorem p_wall {base range low start : Int} (hH : hOk base range low start) {E : Nat → Int} {n : Nat} {tg : Nat → Int32} (hT : tOk E n tg) {e : Int} (h0 : 0 < n) (he0 : E (5 * n - 5) ≤ e) (he1 : e ≤ 2147483647) {f : Nat → Int32} {a0' : Int32} {post : M7 → Prop} {postX : Nat × M7 → Prop}
    (h1 : ∀ f' w1 w2 w3 w4 w5, hw f' (wWrite base range low ((255 - base) / range) start E n e) → post (w1, w2, w3, w4, w5, iI (((wWrite base range low ((255 - base) / range) start E n e).length : Nat) : Int), f')) (h2 : 600 < (wWrite base range low ((255 - base) / range) start E n e).length → ∀ u, postX (5, u)) :
    wp_Wr_writeAll a0' 1 1 0 (iI start) (iI base) (iI range) (iI low) (iI ((255 - base) / range)) 0 f (iI n) tg (iI e) post postX := by
  have hn := hT.1
  have hH' := hH
  obtain ⟨e1, e2, e3, e4, e5, e6, e7, e8⟩ := hH'
  have t0 := hT.2.1 0 (by omega)
  unfold wp_Wr_writeAll
  refine p_Ta_get 0 0 (by omega) ?_
  rw [show tg (5 * 0 + 0) = iI (E 0) from t0.1]
  have y : (0 : Int32) = iI ((([] : List Int).length : Nat) : Int) := by decide
  have hq := @p_st [] f ⟨by decide, fun i v h => by cases h⟩ a0' (E 0) t0.2.1 t0.2.2
  rw [← y] at hq
  refine hq (fun f' hf' => ?_) (fun q u => h2 (lg q) _)
  refine ⟨n + 1, ?_⟩
  have y1 : (1 : Int32) = iI 1 := by decide
  have y2 : (0 : Int32) = iI 0 := by decide
  have hL := p_wallL hH hT h0 he0 he1 (post := post) (postX := postX) n 0 ([] ++ wStart (E 0)) f' (E 0) 1 1 0 start (by omega) hf' t0.2.1 (fun _ => Int.le_refl _) (fun q => by omega) (by omega) (by omega) (by omega) (by omega) (by omega) (by omega) (by omega) (by omega) (fun f' w1 w2 w3 w4 w5 h => h1 f' w1 w2 w3 w4 w5 h) h2
  dsimp only
  rw [y1, y2]
  exact hL
theorem p_Lp_write {base range low start : Int} (hH : hOk base range low start) {E : Nat → Int} {n : Nat} {tg : Nat → Int32} (hT : tOk E n tg) {e : Int} (he1 : e ≤ 2147483647) (he2 : -2147483648 ≤ e) {f fb : Nat → Int32} {bs ds : Int32} {post : Int32 → (Int32 × (Nat → Int32) × Int32 × Int32 × (Nat → Int32)) → Prop} {postX : Nat × (Int32 × (Nat → Int32) × Int32 × Int32 × (Nat → Int32)) → Prop}
    (h1 : n = 0 → ∀ u v, postX (6, (bs, fb, iI n, u, v))) (h2 : 0 < n → e < E (5 * n - 5) → ∀ u v, postX (2, (bs, fb, iI n, u, v)))
    (h3 : 0 < n → E (5 * n - 5) ≤ e → 600 < (wWrite base range low ((255 - base) / range) start E n e).length → ∀ u v, postX (5, (bs, fb, iI n, u, v)))
    (h4 : 0 < n → E (5 * n - 5) ≤ e → ∀ f', hw f' (wWrite base range low ((255 - base) / range) start E n e) → post (iI (((wWrite base range low ((255 - base) / range) start E n e).length : Nat) : Int)) (iI (((wWrite base range low ((255 - base) / range) start E n e).length : Nat) : Int), f', 0, bs, fb)) :
    wp_Lp_write (iI base) (iI range) (iI low) (iI start) (iI ((255 - base) / range)) bs fb (iI n) tg ds f (iI e) post postX := by
  have hn := hT.1
  unfold wp_Lp_write
  refine br_ne n 0 (fun q => ?_) (fun q => h1 (by omega) _ _)
  refine p_Ta_last n (by omega) hn ?_
  have t0 := hT.2.1 (5 * n - 5) (by omega)
  rw [t0.1]
  refine br_le (E (5 * n - 5)) e (fun q2 => ?_) (fun q2 => h2 (by omega) q2 _ _)
  unfold wp_Wr_init
  exact p_wall hH hT (by omega) q2 he1 (fun f' w1 w2 w3 w4 w5 hf' => h4 (by omega) q2 f' hf') (fun q3 u => h3 (by omega) q2 q3 _ _)
