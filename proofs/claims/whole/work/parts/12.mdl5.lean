/-! the reference's write -/
abbrev W13 := Int32 × Int64 × Int64 × Int64 × Int64 × Int32 × Int32 × Int32 × Int32 × Int32 × Int32 × (Nat → Int32) × (Nat → Int32)
abbrev U7 := Int64 × Int64 × Int64 × Int64 × Int32 × Int32 × Int32
def wOk (post : Int32 → W13 → Prop) (L : List Int) : Prop := L.length ≤ 600 → ∀ (A Li F C : Int64) (S b fi : Int32) (f g : Nat → Int32), hw f L → post (iI (L.length : Nat)) (iI (L.length : Nat), A, Li, F, C, S, b, fi, 0, iI (L.length : Nat), 0, f, g)
def wBad (post : Int32 → W13 → Prop) (bs en : Int32) (fb : Nat → Int32) (L : List Int) : Prop := 600 < L.length → ∀ (A Li F C : Int64) (S b fi W : Int32) (g : Nat → Int32), post 0 (bs, A, Li, F, C, S, b, fi, en, W, 3, fb, g)
theorem q_209 {post : Int32 → W13 → Prop} {u : U7} {A Li F C : Int64} {S : Int32} {g : Nat → Int32} {L : List Int} (hl : L.length ≤ 600) (hg : hv g L) (h : wOk post L) : ∀ (j i : Nat) (f : Nat → Int32), i + j = L.length → (∀ q, q < i → f q = g q) → wl_Mo_write_209 post u A Li F C S (iI (L.length : Nat), g) 0 (j + 1) f (iI i) := by
  intro j
  induction j with
  | zero =>
    intro i f hi hf
    unfold wl_Mo_write_209
    refine br_le (L.length : Nat) i (fun _ => ?_) (fun q => by omega)
    refine h hl _ _ _ _ _ _ _ f g ⟨hl, fun q v hq => ?_⟩
    have hq1 : q < L.length := by
      rcases Nat.lt_or_ge q L.length with h9 | h9
      · exact h9
      · rw [List.getElem?_eq_none h9] at hq
        cases hq
    rw [hf q (by omega)]
    exact hg q v (by omega) hq
  | succ j ih =>
    intro i f hi hf
    unfold wl_Mo_write_209
    refine br_le (L.length : Nat) i (fun q => by omega) (fun _ => ?_)
    refine st_ld i 600 ?_
    refine st_st i 600 ?_
    refine st_v (iI ((i + 1 : Nat) : Int)) (ad i 1) ?_
    refine ih (i + 1) _ (by omega) (fun q hq => ?_)
    unfold upd
    by_cases e : q = i
    · rw [if_pos e, e]
    · rw [if_neg e]
      exact hf q (by omega)
theorem q_156 {post : Int32 → W13 → Prop} {u : U7} {A Li F C : Int64} {S bs en : Int32} {fb g : Nat → Int32} {P : List Int} (hP : hv g P) (hl : (P ++ [0, 1, 1]).length ≤ 5000) (h1 : wOk post (P ++ [0, 1, 1])) (h2 : wBad post bs en fb (P ++ [0, 1, 1])) : wj_Mo_write_156 bs en fb post u A Li F C S (iI (P.length : Nat)) g := by
  have e9 : P ++ [0, 1, 1] = ((P ++ [0]) ++ [1]) ++ [1] := by simp
  rw [e9] at hl h1 h2
  unfold wj_Mo_write_156
  refine q_add hP 0 (lm (lm hl)) (fun g' hg' => ?_)
  refine q_add hg' 1 (lm hl) (fun g' hg' => ?_)
  refine q_add hg' 1 hl (fun g' hg' => ?_)
  generalize ((P ++ [0]) ++ [1]) ++ [1] = L at *
  refine br_le (L.length : Nat) 600 (fun q => ?_) (fun q => ?_)
  · unfold wj_Mo_write_187
    refine ⟨fun _ => ⟨L.length + 1, ?_⟩, fun q => absurd rfl q⟩
    exact q_209 (by omega) hg' h1 L.length 0 fb (by omega) (fun q hq => absurd hq (by omega))
  · unfold wj_Mo_write_187
    refine ⟨fun q => absurd q (by decide), fun _ => ?_⟩
    exact h2 (by omega) _ _ _ _ _ _ _ _ _
theorem q_wL {base range low start : Int} (hH : hOk base range low start) {E : Nat → Int} {n : Nat} {tg : Nat → Int32} (hT : tOk E n tg) {e : Int} (h0 : 0 < n) (he0 : E (5 * n - 5) ≤ e) (he1 : e ≤ 2147483647) {post : Int32 → W13 → Prop} {u : U7} {bs : Int32} {fb : Nat → Int32} : ∀ (j i : Nat) (P : List Int) (g : Nat → Int32) (a f l c s : Int), i + j = n → hv g P → 0 ≤ a → (i < n → a ≤ E (5 * i)) → (j = 0 → a = E (5 * n - 5)) → 0 ≤ f → f ≤ 2147483647 → 0 ≤ l → l ≤ 2147483647 → 0 ≤ c → c ≤ 2147483647 → 0 ≤ s → s ≤ 1 →
    (P ++ (wAll base range low ((255 - base) / range) E j i a f l c s ++ wEnd (e - E (5 * n - 5)))).length ≤ 5000 → wOk post (P ++ (wAll base range low ((255 - base) / range) E j i a f l c s ++ wEnd (e - E (5 * n - 5)))) → wBad post bs (iI n) fb (P ++ (wAll base range low ((255 - base) / range) E j i a f l c s ++ wEnd (e - E (5 * n - 5)))) →
    wl_Mo_write_113 (iI base) (iI range) (iI low) bs (iI n) fb tg (iI e) post u (j + 1) g (lI a) (lI l) (lI f) (lI c) (iI s) (iI (P.length : Nat)) (iI i) := by
  have hn := hT.1
  intro j
  induction j with
  | zero =>
    intro i P g a f l c s hi hP a0 _ ha _ _ _ _ _ _ _ _ hl h1 h2
    have ha := ha rfl
    have e8 : wAll base range low ((255 - base) / range) E 0 i a f l c s ++ wEnd (e - E (5 * n - 5)) = wEnd (e - a) := by
      rw [ha]
      rfl
    rw [e8] at hl h1 h2
    unfold wEnd at hl h1 h2
    unfold wl_Mo_write_113
    refine br_le n i (fun _ => ?_) (fun q => by omega)
    refine st_v (lI e) iI_l ?_
    refine lc_eq e a (fun q => ?_) (fun q => ?_)
    · rw [if_neg (by omega)] at hl h1 h2
      exact q_156 hP hl h1 h2
    · have e9 : P ++ 2 :: (uL 5 (e - a) ++ [0, 1, 1]) = (P ++ 2 :: uL 5 (e - a)) ++ [0, 1, 1] := by simp
      rw [if_pos (by omega), e9] at hl h1 h2
      refine st_v (lI e) iI_l ?_
      refine st_v (lI (e - a)) (lI_sub _ _) ?_
      refine q_au hP 2 (e - a) (by omega) (by omega) (by omega) (by omega) (lm hl) (fun g' hg' => ?_)
      exact q_156 hg' hl h1 h2
  | succ j ih =>
    intro i P g a f l c s hi hP a0 ha _ f0 f1 l0' l1' c0 c1' s0 s1 hl h1 h2
    have ha := ha (by omega)
    have t0 := hT.2.1 (5 * i) (by omega)
    have t1 := hT.2.1 (5 * i + 1) (by omega)
    have t2 := hT.2.1 (5 * i + 2) (by omega)
    have t3 := hT.2.1 (5 * i + 3) (by omega)
    have t4 := hT.2.1 (5 * i + 4) (by omega)
    have t5 := hT.2.2.1 i (by omega)
    have e9 : P ++ (wAll base range low ((255 - base) / range) E (j + 1) i a f l c s ++ wEnd (e - E (5 * n - 5))) =
        (P ++ wEnt base range low ((255 - base) / range) a f l c s (E (5 * i)) (E (5 * i + 1)) (E (5 * i + 2)) (E (5 * i + 3)) (E (5 * i + 4))) ++ (wAll base range low ((255 - base) / range) E j (i + 1) (E (5 * i)) (E (5 * i + 1)) (E (5 * i + 2)) (E (5 * i + 3)) (E (5 * i + 4)) ++ wEnd (e - E (5 * n - 5))) := by
      show P ++ ((wEnt base range low ((255 - base) / range) a f l c s _ _ _ _ _ ++ wAll base range low ((255 - base) / range) E j (i + 1) _ _ _ _ _) ++ _) = _
      simp only [List.append_assoc]
    rw [e9] at hl h1 h2
    unfold wl_Mo_write_113
    refine br_le n i (fun q => by omega) (fun _ => ?_)
    refine st_v (iI (5 * i)) (ml 5 i) ?_
    refine q_ent hH hT (by omega) hP a0 ha l0' l1' f0 f1 c0 c1' s0 s1 (lm hl) (fun g' hg' => ?_)
    refine st_v (iI ((i + 1 : Nat) : Int)) (ad i 1) ?_
    refine ih (i + 1) _ g' _ _ _ _ _ (by omega) hg' t0.2.1 (fun q => ?_) (fun q => ?_) t1.2.1 t1.2.2 t2.2.1 t2.2.2 t3.2.1 t3.2.2 t4.2.1 t5 hl h1 h2
    · have := hT.2.2.2 i (by omega)
      have e7 : 5 * (i + 1) = 5 * i + 5 := by omega
      rw [e7]
      omega
    · have e7 : 5 * n - 5 = 5 * i := by omega
      rw [e7]
theorem q_87 {base range low start : Int} (hH : hOk base range low start) {E : Nat → Int} {n : Nat} {tg : Nat → Int32} (hT : tOk E n tg) {e : Int} (h0 : 0 < n) (he0 : E (5 * n - 5) ≤ e) (he1 : e ≤ 2147483647) {post : Int32 → W13 → Prop} {bs bk fi : Int32} {A : Int64} {fb : Nat → Int32} : ∀ (j i : Nat) (P : List Int) (g : Nat → Int32), i + j = 4 → hv g P →
    (P ++ (sB j i (E 0) ++ (wAll base range low ((255 - base) / range) E n 0 (E 0) 1 1 0 start ++ wEnd (e - E (5 * n - 5))))).length ≤ 5000 → wOk post (P ++ (sB j i (E 0) ++ (wAll base range low ((255 - base) / range) E n 0 (E 0) 1 1 0 start ++ wEnd (e - E (5 * n - 5))))) → wBad post bs (iI n) fb (P ++ (sB j i (E 0) ++ (wAll base range low ((255 - base) / range) E n 0 (E 0) 1 1 0 start ++ wEnd (e - E (5 * n - 5))))) →
    wl_Mo_write_87 (iI base) (iI range) (iI low) bs (iI n) fb tg (iI e) post (A, lI 1, lI 1, lI 0, iI start, bk, fi) (lI (E 0)) (j + 1) g (iI (P.length : Nat)) (iI i) := by
  have hn := hT.1
  have t0 := hT.2.1 0 (by omega)
  have hH' := hH
  obtain ⟨e1, e2, e3, e4, e5, e6, e7, e8⟩ := hH'
  intro j
  induction j with
  | zero =>
    intro i P g hi hP hl h1 h2
    unfold wl_Mo_write_87
    refine br_le 4 i (fun _ => ⟨n + 1, ?_⟩) (fun q => by omega)
    have y : (0 : Int32) = iI ((0 : Nat) : Int) := by decide
    rw [y]
    exact q_wL hH hT h0 he0 he1 n 0 P g (E 0) 1 1 0 start (by omega) hP t0.2.1 (fun _ => Int.le_refl _) (fun q => by omega) (by omega) (by omega) (by omega) (by omega) (by omega) (by omega) (by omega) (by omega) hl h1 h2
  | succ j ih =>
    intro i P g hi hP hl h1 h2
    unfold wl_Mo_write_87
    refine br_le 4 i (fun q => by omega) (fun _ => ?_)
    have e9 : P ++ (sB (j + 1) i (E 0) ++ (wAll base range low ((255 - base) / range) E n 0 (E 0) 1 1 0 start ++ wEnd (e - E (5 * n - 5)))) = (P ++ [E 0 / p8 i % 256]) ++ (sB j (i + 1) (E 0) ++ (wAll base range low ((255 - base) / range) E n 0 (E 0) 1 1 0 start ++ wEnd (e - E (5 * n - 5)))) := by
      show P ++ ((E 0 / p8 i % 256) :: sB j (i + 1) (E 0) ++ _) = _
      simp
    rw [e9] at hl h1 h2
    refine st_v (iI (8 * (i : Int))) (ml 8 i) ?_
    refine st_v (lI (E 0 / p8 i)) (lI_sh8 i (by omega)) ?_
    refine q_add hP (E 0 / p8 i) (lm hl) (fun g' hg' => ?_) rfl
    refine st_v (iI ((i + 1 : Nat) : Int)) (ad i 1) ?_
    exact ih (i + 1) _ g' (by omega) hg' hl h1 h2
theorem q_Mo_write {base range low start : Int} (hH : hOk base range low start) {E : Nat → Int} {n : Nat} {tg : Nat → Int32} (hT : tOk E n tg) {e : Int} (he1 : e ≤ 2147483647) (he2 : -2147483648 ≤ e) {A Li F C : Int64} {S bk fi W bs : Int32} {fb g : Nat → Int32} {post : Int32 → W13 → Prop}
    (h1 : n = 0 → post 0 (bs, A, Li, F, C, S, bk, fi, iI n, W, 1, fb, g)) (h2 : 0 < n → e < E (5 * n - 5) → post 0 (bs, A, Li, F, C, S, bk, fi, iI n, W, 2, fb, g))
    (h3 : 0 < n → E (5 * n - 5) ≤ e → wBad post bs (iI n) fb (wWrite base range low ((255 - base) / range) start E n e)) (h4 : 0 < n → E (5 * n - 5) ≤ e → wOk post (wWrite base range low ((255 - base) / range) start E n e)) :
    wp_Mo_write (iI base) (iI range) (iI low) (iI start) bs A Li F C S bk fi (iI n) W fb tg g (iI e) post := by
  have hn := hT.1
  unfold wp_Mo_write
  refine br_ne n 0 (fun q => ?_) (fun q => ?_)
  · have t0 := hT.2.1 (5 * n - 5) (by omega)
    refine st_v (iI (5 * n)) (ml 5 n) ?_
    refine st_v (iI (5 * (n : Int) - 5)) (sb (5 * n) 5) ?_
    refine st_ld (5 * n - 5) 300 ?_
    rw [t0.1]
    refine br_le (E (5 * n - 5)) e (fun q2 => ?_) (fun q2 => ?_)
    · have h3 := h3 (by omega) q2
      have h4 := h4 (by omega) q2
      have hl := len_write base range low ((255 - base) / range) start E n hn e
      have e9 : wWrite base range low ((255 - base) / range) start E n e = ((([] ++ [0]) ++ [5]) ++ [2]) ++ (sB 4 0 (E 0) ++ (wAll base range low ((255 - base) / range) E n 0 (E 0) 1 1 0 start ++ wEnd (e - E (5 * n - 5)))) := by
        unfold wWrite
        rw [← sB_4]
        simp
      rw [e9] at h3 h4 hl
      unfold wj_Mo_write_34
      refine ⟨fun _ => ?_, fun q => absurd rfl q⟩
      unfold wp_Mo_begin
      have z0 := hT.2.1 0 (by omega)
      refine st_ld (v := 0) 0 300 ?_
      rw [z0.1]
      refine st_v (lI (E 0)) iI_l ?_
      have y : (0 : Int32) = iI ((([] : List Int).length : Nat) : Int) := by decide
      rw [y]
      refine q_add (fun i v _ h => by cases h) 0 (lm (lm (lm hl))) (fun g' hg' => ?_)
      refine q_add hg' 5 (lm (lm hl)) (fun g' hg' => ?_)
      refine q_add hg' 2 (lm hl) (fun g' hg' => ?_)
      refine ⟨5, ?_⟩
      have y0 : (0 : Int32) = iI ((0 : Nat) : Int) := by decide
      exact q_87 hH hT (by omega) q2 he1 4 0 _ g' (by omega) hg' hl h4 h3
    · unfold wj_Mo_write_34
      exact ⟨fun q => absurd q (by decide), fun _ => h2 (by omega) q2⟩
  · unfold wj_Mo_write_34
    exact ⟨fun q => absurd q (by decide), fun _ => h1 (by omega)⟩
