/-! the reference: instructions and the run -/
abbrev M13 := Int32 × Int64 × Int64 × Int64 × Int64 × Int32 × Int32 × Int64 × Int32 × Int32 × Int32 × Int32 × (Nat → Int32)
def nPost (post : M13 → Prop) : MS → Prop
  | (a, f, l, c, s, k, m, t, n, R, d) => ∀ g bf fs, ag (7 * n) g R → bOf m bf fs → post (iI n, lI a, lI l, lI f, lI c, iI s, iI k, bf, fs, iI (dI d), iI t, 0, g)
theorem nAt {post : M13 → Prop} {a f l c s k m : Int} {t n : Nat} {R g : Nat → Int32} {d : Bool} {bf : Int64} {fs : Int32} (h : nPost post (a, f, l, c, s, k, m, t, n, R, d)) (hg : ag (7 * n) g R) (hb : bOf m bf fs) : post (iI n, lI a, lI l, lI f, lI c, iI s, iI k, bf, fs, iI (dI d), iI t, 0, g) := h g bf fs hg hb
def nBad (z : Nat) (post : M13 → Prop) (c : Nat) : Prop := ∀ (nr : Int32) (A L F C : Int64) (st bk : Int32) (bf : Int64) (fs en : Int32) (t' : Nat) (g : Nat → Int32), t' ≤ z → post (nr, A, L, F, C, st, bk, bf, fs, en, iI t', iI c, g)
section EXT
variable {sta nr st bk fs en z9 x ft : Int32} {A L F C bf x2 : Int64} {B g : Nat → Int32} {post : M13 → Prop} {u : Int32 × Int32}
theorem x_101 (hf : ¬ ft = 0) (h : post (nr, A, L, F, C, st, bk, bf, fs, en, u.1, ft, g)) : wj_Mo_extended_101 sta z9 nr A L F C st bk bf fs en B g post x2 u x ft := by
  unfold wj_Mo_extended_101
  exact ⟨fun q => absurd q hf, fun _ => h⟩
theorem x_89 {v : Int32} (hf : ¬ u.2 = 0) (h : post (nr, A, L, F, C, st, bk, bf, fs, en, u.1, u.2, g)) : wj_Mo_extended_89 sta z9 nr A L F C st bk bf fs en B g post x2 u x v := by
  unfold wj_Mo_extended_89
  exact ⟨fun _ => x_101 hf h, fun _ => q_wrong (fun _ => x_101 hf h) (fun q => absurd q hf)⟩
theorem w_84 (h0 : u.2 = 0) (h : post (nr, A, L, F, C, st, bk, bf, fs, en, u.1, iI ((2 : Nat) : Int), g)) : wj_Mo_extended_84 sta z9 nr A L F C st bk bf fs en B g post x2 u x := by
  unfold wj_Mo_extended_84 wj_Mo_extended_89
  rw [h0]
  exact ⟨fun q => absurd q (by decide), fun _ => q_wrong (fun q => absurd rfl q) (fun _ => by rw [c2]; exact x_101 (by decide) h)⟩
theorem x_71 (hf : ¬ u.2 = 0) (h : post (nr, A, L, F, C, st, bk, bf, fs, en, u.1, u.2, g)) : wj_Mo_extended_71 sta z9 nr A L F C st bk bf fs en B g post x2 u x := by
  unfold wj_Mo_extended_71 wj_Mo_extended_88 wj_Mo_extended_84
  exact ⟨fun _ => x_89 hf h, fun _ _ _ => ⟨fun _ => x_89 hf h, fun _ => x_89 hf h⟩⟩
theorem x_51 {b : Nat → Int} {z : Nat} (hb : bOk b z B) {t : Nat} (ht : t ≤ z) {y : Int32} (hf : ¬ ft = 0) (h : ∀ t' : Nat, t' ≤ z → post (nr, A, L, F, C, st, bk, bf, fs, en, iI t', ft, g)) : wj_Mo_extended_51 sta (iI z) nr A L F C st bk bf fs en B g post (iI t, y) x2 ft := by
  unfold wj_Mo_extended_51 wj_Mo_extended_84
  refine x_next hb ht hf (fun x t' ht' => ?_)
  refine ⟨fun _ => x_89 hf (h t' ht'), fun _ => ⟨fun _ => x_71 hf (h t' ht'), fun _ => ?_⟩⟩
  intro x911 _
  exact ⟨fun _ => x_89 hf (h t' ht'), fun _ => x_71 hf (h t' ht')⟩
theorem q_fixL {b : Nat → Int} {z : Nat} (hb : bOk b z B) : ∀ (j t i : Nat) (a : Int), i + j = 4 → t + j ≤ z → 0 ≤ a → (0 < j → a < p8 i) → wp_Mo_check (lI (sFix b j t i a)) L 0 (fun v => post (nr, lI (sFix b j t i a), L, F, C, st, bk, bf, fs, en, iI ((t + j : Nat) : Int), v, g)) →
    wl_Mo_extended_142 (iI z) nr L F C st bk bf fs en B g post (j + 1) (iI t) 0 (lI a) (iI i) := by
  have hz := hb.1
  intro j
  induction j with
  | zero =>
    intro t i a hi ht _ _ h
    unfold wl_Mo_extended_142
    exact br_le 4 i (fun _ => h) (fun q => by omega)
  | succ j ih =>
    intro t i a hi ht ha0 ha h
    have ha := ha (by omega)
    have hw := p8_lo i
    unfold wl_Mo_extended_142
    refine br_le 4 i (fun q => by omega) (fun _ => ?_)
    refine q_next hb (by omega) (fun q => ?_) (fun q => by omega) (fun q => by omega)
    obtain ⟨-, b0, b1⟩ := hb.2 t q
    have hm : 0 ≤ b t * p8 i ∧ b t * p8 i ≤ 255 * p8 i := ⟨Int.mul_nonneg b0 (by omega), Int.mul_le_mul_of_nonneg_right (by omega) (by omega)⟩
    refine st_v (lI (b t)) iI_l ?_
    refine st_v (iI (8 * (i : Int))) (ml 8 i) ?_
    intro x19 e19 x20 e20
    rw [e19, lI_or8 i (by omega) ha0 ha b0 b1] at e20
    subst e20
    refine st_v (iI ((i + 1 : Nat) : Int)) (ad i 1) ?_
    have e4 : t + (j + 1) = t + 1 + j := by omega
    rw [e4] at h
    exact ih (t + 1) (i + 1) _ (by omega) (by omega) (by omega) (fun hj => by
      have e2 := p8_up i (by omega)
      omega) h
end EXT
theorem q_ext {b : Nat → Int} {z : Nat} {B : Nat → Int32} (hb : bOk b z B) {start a f l c s k m : Int} {t t0 n : Nat} {R g : Nat → Int32} {d : Bool} {bf : Int64} {fs : Int32} {post : M13 → Prop} (hbf : bOf m bf fs) (hS : mOk z (a, f, l, c, s, k, m, t, n, R, d)) (hg : ag (7 * n) g R)
    (h : sK (sExt b z start (a, f, l, c, s, k, m, t0, n, R, d) t) (nPost post) (nBad z post)) : wp_Mo_extended (iI start) (iI z) (iI n) (lI a) (lI l) (lI f) (lI c) (iI s) (iI k) bf fs (iI (dI d)) (iI t) 0 B g post := by
  have hz := hb.1
  obtain ⟨a0, a1, f0, f1, i0, i1, c0, c1', s0, s1, k0, k1, m0, m1, ht, hn, hd⟩ := hS
  unfold wp_Mo_extended
  unfold sExt at h
  rw [sK_bind] at h
  refine q_uns hb ht (sK_mono h (fun q e hq => ?_) (fun cc e hq t' ht' => ?_))
  · obtain ⟨v1, v2, v3, v4, v5⟩ := sNum_ok hb 5 t 0 (by omega) e
    have v3 := v3 rfl
    obtain ⟨v, t1⟩ := q
    dsimp only at v1 v2 v3 v4 v5 hq ⊢
    refine ⟨fun q => absurd rfl q, fun _ => ?_⟩
    refine st_v (iI ((z : Int) - t1)) (sb z t1) ?_
    refine st_v (lI ((z : Int) - t1)) iI_l ?_
    refine lc_le v ((z : Int) - t1) (fun g1 => ?_) (fun g1 => ?_)
    · rw [if_neg (by omega)] at hq
      unfold wj_Mo_extended_33
      refine ⟨fun q => absurd rfl q, fun _ => ?_⟩
      refine lc_ne v 0 (fun g2 => ?_) (fun g2 => ?_)
      · rw [if_neg g2] at hq
        unfold wj_Mo_extended_51
        refine q_next hb (by omega) (fun g3 => ?_) (fun g3 => by omega) (fun g3 => by omega)
        obtain ⟨-, b0, b1⟩ := hb.2 t1 g3
        refine br_eq (b t1) 0 (fun g4 => ?_) (fun g4 => ?_)
        · rw [if_pos g4] at hq
          exact w_84 rfl (sK_l hq _ _ _ _ _ _ _ _ _ _ _ _ (by omega))
        · rw [if_neg g4] at hq
          refine br_ne (b t1) 1 (fun g5 => ?_) (fun g5 => ?_)
          · rw [if_neg g5] at hq
            unfold wj_Mo_extended_71
            refine br_ne (b t1) 2 (fun g7 => ?_) (fun g7 => ?_)
            · rw [if_neg g7] at hq
              unfold wj_Mo_extended_88 wj_Mo_extended_89
              refine ⟨fun _ => ?_, fun q => absurd rfl q⟩
              unfold wj_Mo_extended_101
              refine ⟨fun _ => ?_, fun q => absurd rfl q⟩
              refine br_ne (b t1) 1 (fun _ => ?_) (fun q => absurd q g5)
              refine br_ne (b t1) 2 (fun _ => ?_) (fun q => absurd q g7)
              refine st_v (iI v) (lI_i v) ?_
              refine st_v (iI (v - 1)) (sb v 1) ?_
              have e9 : ((t1 + 1 : Nat) : Int) + (v - 1) = ((t1 + v.toNat : Nat) : Int) := by omega
              refine st_v (iI ((t1 + v.toNat : Nat) : Int)) (by dsimp only; rw [iI_add, e9]) ?_
              exact nAt (sK_r hq) hg hbf
            · rw [if_pos g7] at hq
              refine lc_eq v 5 (fun g6 => ?_) (fun g6 => ?_)
              · rw [if_neg (fun e => e g6)] at hq
                unfold wj_Mo_extended_88 wj_Mo_extended_89
                refine ⟨fun _ => ?_, fun q => absurd rfl q⟩
                unfold wj_Mo_extended_101
                refine ⟨fun _ => ?_, fun q => absurd rfl q⟩
                refine br_ne (b t1) 1 (fun _ => ?_) (fun q => absurd q g5)
                refine br_ne (b t1) 2 (fun q => absurd g7 q) (fun _ => ?_)
                refine ⟨5, ?_⟩
                obtain ⟨k1, k2⟩ := kAddr hq
                have w1 := (hb.2 (t1 + 1) (by omega)).2
                have w2 := (hb.2 (t1 + 1 + 1) (by omega)).2
                have w3 := (hb.2 (t1 + 1 + 2) (by omega)).2
                have w4 := (hb.2 (t1 + 1 + 3) (by omega)).2
                have hx : 0 ≤ sFix4 b (t1 + 1) ∧ sFix4 b (t1 + 1) < 4294967296 := by
                  unfold sFix4
                  omega
                have q := q_fixL (nr := iI n) (L := lI l) (F := lI f) (C := lI c) (st := iI s) (bk := iI k) (bf := bf) (fs := fs) (en := iI (dI d)) (g := g) (post := post) hb 4 (t1 + 1) 0 0 (by omega) (by omega) (by omega) (fun _ => by decide) (by
                  rw [sFix_4]
                  exact y_check (by omega) (by omega) (by omega) (by omega) (fun q => k2 (by omega) _ _ _ _ _ _ _ _ _ _ _ _ (by omega)) (fun _ _ q => nAt (k1 q) hg hbf))
                have y1 : lI 0 = (0 : Int64) := by decide
                have y2 : iI ((0 : Nat) : Int) = (0 : Int32) := by decide
                rw [y1, y2] at q
                exact q
              · rw [if_pos g6] at hq
                exact w_84 rfl (sK_l hq _ _ _ _ _ _ _ _ _ _ _ _ (by omega))
          · rw [if_pos g5] at hq
            refine lc_ne v 1 (fun g6 => ?_) (fun g6 => ?_)
            · rw [if_pos g6] at hq
              exact w_84 rfl (sK_l hq _ _ _ _ _ _ _ _ _ _ _ _ (by omega))
            · rw [if_neg (fun e => e g6), sK_bind] at hq
              unfold wj_Mo_extended_71
              refine br_ne (b t1) 2 (fun _ => ?_) (fun q => by omega)
              unfold wj_Mo_extended_88 wj_Mo_extended_89
              refine ⟨fun _ => ?_, fun q => absurd rfl q⟩
              unfold wj_Mo_extended_101
              refine ⟨fun _ => ?_, fun q => absurd rfl q⟩
              refine br_ne (b t1) 1 (fun q => absurd g5 q) (fun _ => ?_)
              obtain ⟨k1, k2, k3⟩ := kRow hq
              refine y_come (e := 1) hbf a0 a1 m0 m1 hn (Or.inr rfl) hg (fun q1 q2 g' hg' => ?_) (fun q => ?_) (fun q q' => ?_)
              · unfold wp_Mo_begin
                show post (iI ((n + 1 : Nat) : Int), lI 0, lI 1, lI 1, lI 0, iI start, iI 0, lI a, 1, iI (dI true), iI ((t1 + 1 : Nat) : Int), 0, g')
                exact nAt (sK_r (k3 q1 q2)) hg' (Or.inl ⟨rfl, rfl⟩)
              · unfold wp_Mo_begin
                exact k1 q _ _ _ _ _ _ _ _ _ _ _ _ (by omega)
              · unfold wp_Mo_begin
                exact k2 q q' _ _ _ _ _ _ _ _ _ _ _ _ (by omega)
      · rw [if_pos g2] at hq
        refine q_wrong (fun q => absurd rfl q) (fun _ => ?_)
        rw [c2]
        exact x_51 hb (by omega) (by decide) (fun t' ht' => sK_l hq _ _ _ _ _ _ _ _ _ _ _ _ ht')
    · rw [if_pos (by omega)] at hq
      refine q_wrong (fun q => absurd rfl q) (fun _ => ?_)
      unfold wj_Mo_extended_33
      rw [c1]
      refine ⟨fun _ => ?_, fun q => absurd q (by decide)⟩
      exact x_51 hb (by omega) (by decide) (fun t' ht' => sK_l hq _ _ _ _ _ _ _ _ _ _ _ _ ht')
  · have hf := iI_c12 (sNum_bad 5 t 0 e)
    refine ⟨fun _ => ?_, fun q => absurd q hf⟩
    unfold wj_Mo_extended_33
    refine ⟨fun _ => ?_, fun q => absurd q hf⟩
    exact x_51 hb ht' hf (fun t' ht' => hq _ _ _ _ _ _ _ _ _ _ _ _ ht')
/-! which faults there are -/
def f16 (c : Nat) : Prop := 1 ≤ c ∧ c ≤ 6
theorem iI_f16 {c : Nat} (h : f16 c) : ¬ iI (c : Int) = 0 := by
  obtain ⟨h1, h2⟩ := h
  rw [l0, iI_eq]
  omega
theorem f_num {b : Nat → Int} {z : Nat} {sg : Bool} {t : Nat} : sK (sNum b z sg 5 t 0) (fun _ => True) f16 := by
  cases e : sNum b z sg 5 t 0 with
  | inl c =>
    have := sNum_bad 5 t 0 e
    show 1 ≤ c ∧ c ≤ 6
    omega
  | inr q => exact trivial
theorem f_line {v : Int} {S : MS} {f : MS → Nat ⊕ MS} (h : ∀ S, sK (f S) (fun _ => True) f16) : sK (sBind (sLine v S) f) (fun _ => True) f16 := by
  rw [sK_bind]
  obtain ⟨a', f', l', c', s', k', m', t', n', R', d'⟩ := S
  exact uLine (fun _ => h _) (fun _ => ⟨by omega, by omega⟩)
theorem f_line0 {v : Int} {S : MS} : sK (sLine v S) (fun _ => True) f16 := by
  obtain ⟨a', f', l', c', s', k', m', t', n', R', d'⟩ := S
  exact uLine (fun _ => trivial) (fun _ => ⟨by omega, by omega⟩)
theorem f_addr {v : Int} {S : MS} : sK (sAddr v S) (fun _ => True) f16 := by
  obtain ⟨a', f', l', c', s', k', m', t', n', R', d'⟩ := S
  exact uAddr (fun _ => trivial) (fun _ => ⟨by omega, by omega⟩)
theorem f_row {v : Int} {S : MS} : sK (sRow v S) (fun _ => True) f16 := by
  obtain ⟨a', f', l', c', s', k', m', t', n', R', d'⟩ := S
  exact uRow (fun _ => ⟨by omega, by omega⟩) (fun _ _ => ⟨by omega, by omega⟩) (fun _ _ => trivial)
theorem f_bind {α β : Type} {r : Nat ⊕ α} {f : α → Nat ⊕ β} (h : sK r (fun _ => True) f16) (h2 : ∀ x, sK (f x) (fun _ => True) f16) : sK (sBind r f) (fun _ => True) f16 := by
  rw [sK_bind]
  exact sK_mono h (fun x _ _ => h2 x) (fun _ _ q => q)
theorem f_ext {b : Nat → Int} {z : Nat} {start : Int} {S : MS} {t : Nat} : sK (sExt b z start S t) (fun _ => True) f16 := by
  unfold sExt
  refine f_bind f_num (fun q => ?_)
  split
  · exact ⟨by omega, by omega⟩
  split
  · exact ⟨by omega, by omega⟩
  split
  · exact ⟨by omega, by omega⟩
  split
  · split
    · exact ⟨by omega, by omega⟩
    · exact f_bind f_row (fun _ => trivial)
  split
  · split
    · exact ⟨by omega, by omega⟩
    · exact f_addr
  exact trivial
theorem f_if {α : Type} {c : Prop} [Decidable c] {x y : Nat ⊕ α} (h1 : sK x (fun _ => True) f16) (h2 : sK y (fun _ => True) f16) : sK (if c then x else y) (fun _ => True) f16 := by
  by_cases h : c
  · rw [if_pos h]
    exact h1
  · rw [if_neg h]
    exact h2
theorem f_1 {α : Type} : sK (Sum.inl 1 : Nat ⊕ α) (fun _ => True) f16 := ⟨by omega, by omega⟩
theorem f_in {α : Type} {x : α} : sK (Sum.inr x : Nat ⊕ α) (fun _ => True) f16 := trivial
theorem f_ins {b : Nat → Int} {z : Nat} {base range low start c : Int} {S : MS} {t : Nat} : sK (sIns b z base range low start c S t) (fun _ => True) f16 := by
  unfold sIns
  refine f_if (f_bind f_line0 (fun _ => f_bind f_addr (fun _ => f_row))) ?_
  refine f_if f_ext ?_
  refine f_if f_row ?_
  refine f_if (f_bind f_num (fun _ => f_addr)) ?_
  refine f_if (f_bind f_num (fun _ => f_line0)) ?_
  refine f_if (f_bind f_num (fun _ => f_in)) ?_
  refine f_if (f_bind f_num (fun _ => f_in)) ?_
  refine f_if f_in ?_
  refine f_if f_in ?_
  refine f_if f_addr ?_
  refine f_if (f_if f_1 f_addr) ?_
  exact f_bind f_num (fun _ => f_in)
theorem sK_el {α : Type} {r : Nat ⊕ α} {x : Nat} {ok : α → Prop} {bad : Nat → Prop} (h : sK r ok bad) (e : r = .inl x) : bad x := by
  subst e
  exact h
