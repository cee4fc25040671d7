/-! class and reference side by side: every call answers alike and keeps them alike -/
theorem rd {xs : Nat → Int32} {L q : Nat} (j : Nat) {c : Int32} {P : Int32 → Prop} (h : P (xs (6 * q + j))) (hc : c = iI j) (hq : 6 * q + j < L) (hL : L ≤ 3072) (hj : j ≤ 5) : ∀ y : Int32, y = iI (6 * (q : Int)) + c → vp_in y L ∧ (∀ x : Int32, x = xs y.toNatClampNeg → P x) := by
  subst hc
  refine st_v (iI (6 * (q : Int) + j)) (iI_add _ _) ?_
  exact st_ld (6 * q + j) L h rfl (by omega) hq (by omega)
theorem vp01 : vp_in 0 1 := by
  unfold vp_in
  decide
theorem wo {g : Nat → Int64} {y : Int32} {P : (Nat → Int64) → Prop} (h : P (vp_updL g (0 : Int32).toNatClampNeg y.toInt64)) : ∀ x : Int64, x = y.toInt64 → vp_in 0 1 ∧ (∀ g' : Nat → Int64, g' = vp_updL g (0 : Int32).toNatClampNeg x → P g') := fun x e => ⟨vp01, fun g' e' => by rw [e', e]; exact h⟩
theorem oc {g : Nat → Int64} {y : Int32} {A : Prop} (h : A) : vp_in 0 1 ∧ (∀ x : Int64, x = vp_updL g (0 : Int32).toNatClampNeg y.toInt64 (0 : Int32).toNatClampNeg → ∀ x2 : Int64, x2 = y.toInt64 → ∀ x3 : Int32, x3 = lg_cmp x x2 → (x3 = 0 → A) ∧ (¬ x3 = 0 → False)) := by
  refine ⟨vp01, fun x e x2 e2 x3 e3 => ⟨fun _ => h, fun q => q ?_⟩⟩
  rw [e3, e, e2, pk_uLs, lg_cmp_eq]
def Iv (base range low start : Int) (z r t : Nat) (B RV TG PB MR MT : Nat → Int32) : Prop := ∃ (b : Nat → Int) (R : Nat → Int32) (E : Nat → Int), hOk base range low start ∧ bOk b z B ∧ bOk b z PB ∧ r ≤ 90 ∧ ag (7 * r) RV R ∧ ag (7 * r) MR R ∧ (r = 0 ∨ R (7 * r - 1) = iI 1) ∧ tOk E t TG ∧ tOk E t MT
theorem bOk_up {b : Nat → Int} {z : Nat} {B : Nat → Int32} {v : Int} (h : bOk b z B) (hz : z < 600) : bOk (fun i => if i = z then v % 256 else b i) (z + 1) (upd B z (iI (v % 256))) := by
  refine ⟨by omega, fun i hi => ?_⟩
  unfold upd
  by_cases e : i = z
  · rw [if_pos e]
    show iI (v % 256) = iI (if i = z then v % 256 else b i) ∧ 0 ≤ (if i = z then v % 256 else b i) ∧ (if i = z then v % 256 else b i) < 256
    rw [if_pos e]
    exact ⟨rfl, by omega, by omega⟩
  · rw [if_neg e]
    show B i = iI (if i = z then v % 256 else b i) ∧ 0 ≤ (if i = z then v % 256 else b i) ∧ (if i = z then v % 256 else b i) < 256
    rw [if_neg e]
    exact h.2 i (by omega)
theorem bOk_w {f : Nat → Int32} {P : List Int} (h : hw f P) : bOk (fun i => P.getD i 0) P.length f := by
  refine ⟨h.1, fun i hi => ?_⟩
  have e : P[i]? = some (P.getD i 0) := by
    rw [List.getD_eq_getElem?_getD, List.getElem?_eq_getElem hi]
    rfl
  exact h.2 i _ e
/-! the law's five wrappers -/
theorem f_run {b : Nat → Int} {z : Nat} {base range low start : Int} : sK (sRun b z base range low start) (fun _ => True) f16 := by
  have hl : ∀ (j : Nat) (S : MS), sK (sLoop b z base range low start j S) (fun _ => True) f16 := by
    intro j
    induction j with
    | zero =>
      intro S
      exact trivial
    | succ j ih =>
      intro S
      unfold sLoop
      split
      · exact trivial
      · exact f_bind f_ins ih
  unfold sRun
  refine f_bind (hl _ _) (fun S => ?_)
  split
  · exact trivial
  · exact ⟨by omega, by omega⟩
abbrev O5 := Int32 × (Nat → Int32) × Int32 × (Nat → Int32) × (Nat → Int64)
theorem p_La_run {b : Nat → Int} {z : Nat} {B : Nat → Int32} (hb : bOk b z B) {base range low start : Int} (hH : hOk base range low start) {rs : Int32} {rv g5 : Nat → Int32} {g : Nat → Int64} {post : Int32 → O5 → Prop} (h : sK (sRun b z base range low start) (fun q => ∀ g', ag (7 * q.1) g' q.2 → post 0 (iI q.1, g', rs, rv, vp_updL g (0 : Int32).toNatClampNeg (iI q.1).toInt64)) (fun c => ∀ u v, post (iI c) (rs, rv, u, v, g))) : wp_La_run (iI base) (iI range) (iI low) (iI start) (iI ((255 - base) / range)) (iI z) B rs rv g5 g post := by
  unfold wp_La_run
  refine p_Lp_run hb hH (sK_mono h (fun q e hq g' hg' => wo (hq g' hg')) (fun c e hc u v => ?_))
  have hf := sK_el f_run e
  have hc := hc u v
  dsimp only
  rcases (show c = 1 ∨ c = 2 ∨ c = 3 ∨ c = 4 ∨ c = 5 ∨ c = 6 by unfold f16 at hf; omega) with rfl | rfl | rfl | rfl | rfl | rfl
  · exact ⟨fun _ => by rw [c1]; exact hc, fun q => absurd rfl q⟩
  · exact ⟨fun q => absurd q (by decide), fun _ => ⟨fun _ => by rw [c2]; exact hc, fun q => absurd rfl q⟩⟩
  · exact ⟨fun q => absurd q (by decide), fun _ => ⟨fun q => absurd q (by decide), fun _ => ⟨fun _ => by rw [c3]; exact hc, fun q => absurd rfl q⟩⟩⟩
  · exact ⟨fun q => absurd q (by decide), fun _ => ⟨fun q => absurd q (by decide), fun _ => ⟨fun q => absurd q (by decide), fun _ => ⟨fun _ => by rw [c4]; exact hc, fun q => absurd rfl q⟩⟩⟩⟩
  · exact ⟨fun q => absurd q (by decide), fun _ => ⟨fun q => absurd q (by decide), fun _ => ⟨fun q => absurd q (by decide), fun _ => ⟨fun q => absurd q (by decide), fun _ => ⟨fun _ => by rw [c5]; exact hc, fun q => absurd rfl q⟩⟩⟩⟩⟩
  · exact ⟨fun q => absurd q (by decide), fun _ => ⟨fun q => absurd q (by decide), fun _ => ⟨fun q => absurd q (by decide), fun _ => ⟨fun q => absurd q (by decide), fun _ => ⟨fun q => absurd q (by decide), fun _ => ⟨fun _ => by rw [c6]; exact hc, fun q => absurd rfl q⟩⟩⟩⟩⟩⟩
theorem s_run_ok {b : Nat → Int} {z : Nat} {B : Nat → Int32} (hb : bOk b z B) {base range low start : Int} (hH : hOk base range low start) : sK (sRun b z base range low start) (fun q => q.1 ≤ 90 ∧ (q.1 = 0 ∨ q.2 (7 * q.1 - 1) = iI 1)) (fun _ => True) := by
  unfold sRun
  rw [sK_bind]
  obtain ⟨e1, e2, e3, e4, e5, e6, e7, e8⟩ := id hH
  refine sK_mono (s_loop_ok hb hH 600 (sNew start 0 0 (fun _ => 0)) ⟨by omega, by omega, by omega, by omega, by omega, by omega, by omega, by omega, by omega, by omega, by omega, by omega, by omega, by omega, by omega, by omega, fun _ => Or.inl rfl⟩) (fun S _ hS => ?_) (fun _ _ _ => trivial)
  obtain ⟨a', f', l', c', s', k', m', t', n', R', d'⟩ := S
  obtain ⟨a0, a1, f0, f1, i0, i1, c0, c1', s0, s1, k0, k1, m0, m1, ht, hn, hd⟩ := hS
  split
  · rename_i hE
    exact ⟨hn, hd hE⟩
  · exact trivial
section LAW
variable {xs : Nat → Int32} {L : Nat}
theorem law_ok (hL : L ≤ 3072) : ∀ (k q : Nat) (base range low start : Int) (z r t : Nat) (B RV TG PB MR MT DP DR NR SP : Nat → Int32) (ds drs nr st bk fs en at9 ft W th : Int32) (A Li F C bf : Int64) (g : Nat → Int64), L < 6 * (q + k + 1) → 6 * q ≤ L → Iv base range low start z r t B RV TG PB MR MT →
    wl_La_law xs L (k + 1) (iI base) (iI range) (iI low) (iI start) (iI ((255 - base) / range)) (iI z) B (iI r) RV (iI t) TG ds DP drs DR (iI base) (iI range) (iI low) (iI start) (iI z) (iI r) nr A Li F C st bk bf fs en at9 ft (iI t) W th PB MR NR MT SP g (iI (6 * (q : Int))) := by
  intro k
  induction k with
  | zero =>
    intro q base range low start z r t B RV TG PB MR MT DP DR NR SP ds drs nr st bk fs en at9 ft W th A Li F C bf g hk hq _
    unfold wl_La_law
    have e : Int32.ofNat L = iI (L : Int) := (iI_nat L).symm
    refine st_v (iI ((L : Int) - 6)) (by rw [e]; exact sb L 6) ?_
    exact br_lt ((L : Int) - 6) (6 * q) (fun _ => trivial) (fun h => by omega)
  | succ k ih =>
    intro q base range low start z r t B RV TG PB MR MT DP DR NR SP ds drs nr st bk fs en at9 ft W th A Li F C bf g hk hq hI
    have nx : ∀ (base range low start : Int) (z r t : Nat) (B RV TG PB MR MT DP DR NR SP : Nat → Int32) (ds drs nr st bk fs en at9 ft W th : Int32) (A Li F C bf : Int64) (g : Nat → Int64), 6 * (q + 1) ≤ L → Iv base range low start z r t B RV TG PB MR MT → ∀ y : Int32, y = iI (6 * (q : Int)) + Int32.ofInt 6 →
        wl_La_law xs L (k + 1) (iI base) (iI range) (iI low) (iI start) (iI ((255 - base) / range)) (iI z) B (iI r) RV (iI t) TG ds DP drs DR (iI base) (iI range) (iI low) (iI start) (iI z) (iI r) nr A Li F C st bk bf fs en at9 ft (iI t) W th PB MR NR MT SP g y := by
      intro base range low start z r t B RV TG PB MR MT DP DR NR SP ds drs nr st bk fs en at9 ft W th A Li F C bf g h1 h2
      exact st_v (iI (6 * ((q + 1 : Nat) : Int))) (ad (6 * q) 6) (ih (q + 1) base range low start z r t B RV TG PB MR MT DP DR NR SP ds drs nr st bk fs en at9 ft W th A Li F C bf g (by omega) h1 h2)
    obtain ⟨b, R, E, hH, hB, hPB, hr, hRV, hMR, hla, hT, hMT⟩ := hI
    have hI : Iv base range low start z r t B RV TG PB MR MT := ⟨b, R, E, hH, hB, hPB, hr, hRV, hMR, hla, hT, hMT⟩
    unfold wl_La_law
    have e : Int32.ofNat L = iI (L : Int) := (iI_nat L).symm
    refine st_v (iI ((L : Int) - 6)) (by rw [e]; exact sb L 6) ?_
    refine br_lt ((L : Int) - 6) (6 * q) (fun _ => trivial) (fun h6 => ?_)
    have h6 : 6 * (q + 1) ≤ L := by omega
    refine st_ld (6 * q) L ?_ rfl (by omega) (by omega) (by omega)
    have ev := iI_of (xs (6 * q))
    refine st_v (iI ((xs (6 * q)).toInt % 16)) (by rw [← iI_15, ← ev]) ?_
    have n1 : (1 : Int32) = iI ((1 : Nat) : Int) := by decide
    have n2 : (2 : Int32) = iI ((2 : Nat) : Int) := by decide
    have n3 : (3 : Int32) = iI ((3 : Nat) : Int) := by decide
    have n4 : (4 : Int32) = iI ((4 : Nat) : Int) := by decide
    have n5 : (5 : Int32) = iI ((5 : Nat) : Int) := by decide
    obtain ⟨v1, w1, r1⟩ : ∃ v : Int, xs (6 * q + 1) = iI v ∧ (-2147483648 ≤ v ∧ v < 2147483648) := ⟨_, iI_of _, iI_rng _⟩
    obtain ⟨v2, w2, r2⟩ : ∃ v : Int, xs (6 * q + 2) = iI v ∧ (-2147483648 ≤ v ∧ v < 2147483648) := ⟨_, iI_of _, iI_rng _⟩
    obtain ⟨v3, w3, r3⟩ : ∃ v : Int, xs (6 * q + 3) = iI v ∧ (-2147483648 ≤ v ∧ v < 2147483648) := ⟨_, iI_of _, iI_rng _⟩
    obtain ⟨v4, w4, r4⟩ : ∃ v : Int, xs (6 * q + 4) = iI v ∧ (-2147483648 ≤ v ∧ v < 2147483648) := ⟨_, iI_of _, iI_rng _⟩
    obtain ⟨v5, w5, r5⟩ : ∃ v : Int, xs (6 * q + 5) = iI v ∧ (-2147483648 ≤ v ∧ v < 2147483648) := ⟨_, iI_of _, iI_rng _⟩
    -- header
    refine br_eq ((xs (6 * q)).toInt % 16) 0 (fun _ => ?_) (fun _ => ?_)
    · refine rd 1 ?_ n1 (by omega) hL (by omega)
      refine rd 2 ?_ n2 (by omega) hL (by omega)
      refine rd 3 ?_ n3 (by omega) hL (by omega)
      refine rd 4 ?_ n4 (by omega) hL (by omega)
      refine p_Lp_header _ _ _ _ w1 w2 w3 w4 r1 r2 r3 r4 (fun hok => ?_) (fun hok => ?_)
      · refine rd 1 ?_ n1 (by omega) hL (by omega)
        refine rd 2 ?_ n2 (by omega) hL (by omega)
        refine rd 3 ?_ n3 (by omega) hL (by omega)
        refine rd 4 ?_ n4 (by omega) hL (by omega)
        refine q_Mo_header _ _ _ _ w1 w2 w3 w4 r1 r2 r3 r4 (fun _ => ?_) (fun hno => absurd hok hno)
        exact ⟨fun _ => nx _ _ _ _ z r t B RV TG PB MR MT DP DR NR SP ds drs nr st bk fs en at9 ft W _ A Li F C bf g h6 ⟨b, R, E, hok, hB, hPB, hr, hRV, hMR, hla, hT, hMT⟩, fun q => absurd rfl q⟩
      · refine rd 1 ?_ n1 (by omega) hL (by omega)
        refine rd 2 ?_ n2 (by omega) hL (by omega)
        refine rd 3 ?_ n3 (by omega) hL (by omega)
        refine rd 4 ?_ n4 (by omega) hL (by omega)
        refine q_Mo_header _ _ _ _ w1 w2 w3 w4 r1 r2 r3 r4 (fun hno => absurd hno hok) (fun _ => ?_)
        exact ⟨fun _ => nx base range low start z r t B RV TG PB MR MT DP DR NR SP ds drs nr st bk fs en at9 ft W _ A Li F C bf g h6 hI, fun q => absurd rfl q⟩
    -- put
    refine br_eq ((xs (6 * q)).toInt % 16) 1 (fun _ => ?_) (fun _ => ?_)
    · refine rd 1 ?_ n1 (by omega) hL (by omega)
      unfold wp_La_put wp_Lp_put
      refine p_append v1 hB.1 (fun hz => ?_) (fun hz => ?_) w1
      · refine wo ?_
        refine rd 1 ?_ n1 (by omega) hL (by omega)
        rw [w1]
        refine q_Mo_put hPB.1 (fun _ => ?_) (fun hz2 => by omega)
        unfold wp_Mo_thrown
        refine ⟨fun _ => ⟨fun q => absurd rfl q, fun _ => oc (g := g) ?_⟩, fun q => absurd rfl q⟩
        exact nx base range low start (z + 1) r t _ RV TG _ MR MT DP DR NR SP ds drs nr st bk fs en at9 ft W _ A Li F C bf _ h6 ⟨_, R, E, hH, bOk_up hB hz, bOk_up hPB hz, hr, hRV, hMR, hla, hT, hMT⟩
      · refine ⟨fun _ => ?_, fun q => absurd rfl q⟩
        refine rd 1 ?_ n1 (by omega) hL (by omega)
        rw [w1]
        refine q_Mo_put hPB.1 (fun hz2 => by omega) (fun _ => ?_)
        unfold wp_Mo_thrown
        exact ⟨fun _ => ⟨fun _ => nx base range low start z r t B RV TG PB MR MT DP DR NR SP ds drs nr st bk fs en at9 ft W _ A Li F C bf g h6 hI, fun q => absurd q (by decide)⟩, fun q => absurd rfl q⟩
    -- clear
    refine br_eq ((xs (6 * q)).toInt % 16) 2 (fun _ => ?_) (fun _ => ?_)
    · unfold wp_Lp_clear wp_Mo_clear
      refine ⟨fun _ => ?_, fun q => absurd rfl q⟩
      have h0 : ∀ {B : Nat → Int32}, bOk b 0 B := ⟨by omega, fun i hi => absurd hi (Nat.not_lt_zero i)⟩
      exact nx base range low start 0 r t B RV TG PB MR MT DP DR NR SP ds drs nr st bk fs en at9 ft W _ A Li F C bf g h6 ⟨b, R, E, hH, h0, h0, hr, hRV, hMR, hla, hT, hMT⟩
    -- byteAt
    refine br_eq ((xs (6 * q)).toInt % 16) 3 (fun _ => ?_) (fun _ => ?_)
    · refine rd 1 ?_ n1 (by omega) hL (by omega)
      rw [w1]
      refine p_byteAt hB.1 r1.1 r1.2 (fun g0 g1 => ?_) (fun hv => ?_)
      · refine rd 1 ?_ n1 (by omega) hL (by omega)
        rw [w1]
        refine q_byteAt hPB.1 r1.1 r1.2 (fun _ _ => ?_) (fun hv => absurd ⟨g0, g1⟩ hv)
        have e1 := (hB.2 v1.toNat (by omega)).1
        have e2 := (hPB.2 v1.toNat (by omega)).1
        exact ⟨fun _ => nx base range low start z r t B RV TG PB MR MT DP DR NR SP ds drs nr st bk fs en at9 ft W _ A Li F C bf g h6 hI, fun q => absurd (e1.trans e2.symm) q⟩
      · refine rd 1 ?_ n1 (by omega) hL (by omega)
        rw [w1]
        refine q_byteAt hPB.1 r1.1 r1.2 (fun g0 g1 => absurd ⟨g0, g1⟩ hv) (fun _ => ?_)
        exact ⟨fun _ => nx base range low start z r t B RV TG PB MR MT DP DR NR SP ds drs nr st bk fs en at9 ft W _ A Li F C bf g h6 hI, fun q => absurd rfl q⟩
    -- run
    refine br_eq ((xs (6 * q)).toInt % 16) 4 (fun _ => ?_) (fun _ => ?_)
    · refine p_La_run hB hH ?_
      have ok := s_run_ok hB hH
      have fa := @f_run b z base range low start
      cases hs : sRun b z base range low start with
      | inl c =>
        rw [hs] at fa
        have fa : f16 c := fa
        intro u v
        refine q_Mo_run hPB hH ?_
        rw [hs]
        intro nr A L F C st bk bf fs en at9 g
        unfold wp_Mo_thrown
        exact ⟨fun _ => ⟨fun _ => nx base range low start z r t B RV TG PB MR MT DP v _ SP ds u _ _ _ _ _ _ _ W _ _ _ _ _ _ _ h6 hI, fun q => absurd q (iI_f16 fa)⟩, fun q => absurd rfl q⟩
      | inr p =>
        rw [hs] at ok
        obtain ⟨p1, p2⟩ := (show p.1 ≤ 90 ∧ (p.1 = 0 ∨ p.2 (7 * p.1 - 1) = iI 1) from ok)
        intro g' hg'
        refine q_Mo_run hPB hH ?_
        rw [hs]
        intro A L F C st bk bf fs en at9 row g9 hrow hg
        unfold wp_Mo_thrown
        refine ⟨fun _ => ⟨fun q => absurd rfl q, fun _ => oc (g := g) ?_⟩, fun q => absurd rfl q⟩
        exact nx base range low start z p.1 t B g' TG PB row MT DP RV g9 SP ds _ _ _ _ _ _ _ _ W _ _ _ _ _ _ _ h6 ⟨b, p.2, E, hH, hB, hPB, p1, hg', hrow, p2, hT, hMT⟩
    -- row
    refine br_eq ((xs (6 * q)).toInt % 16) 5 (fun _ => ?_) (fun _ => ?_)
    · refine rd 1 ?_ n1 (by omega) hL (by omega)
      refine rd 2 ?_ n2 (by omega) hL (by omega)
      unfold wp_La_row
      rw [w1, w2]
      refine p_rowat hr r1.1 r1.2 r2.1 r2.2 (fun g0 g1 g2 g3 => ?_) (fun hv => ?_)
      · refine wo ?_
        refine rd 1 ?_ n1 (by omega) hL (by omega)
        refine rd 2 ?_ n2 (by omega) hL (by omega)
        rw [w1, w2]
        refine q_rowat hr r1.1 r1.2 r2.1 r2.2 (fun _ _ _ _ => ?_) (fun hv => absurd ⟨g0, g1, g2, g3⟩ hv)
        have e1 := hRV (7 * v1.toNat + v2.toNat) (by omega)
        have e2 := hMR (7 * v1.toNat + v2.toNat) (by omega)
        rw [e1, e2]
        unfold wp_Mo_thrown
        refine ⟨fun _ => ⟨fun q => absurd rfl q, fun _ => oc (g := g) ?_⟩, fun q => absurd rfl q⟩
        exact nx base range low start z r t B RV TG PB MR MT DP DR NR SP ds drs nr st bk fs en at9 ft W _ A Li F C bf _ h6 hI
      · refine ⟨fun _ => ?_, fun q => absurd rfl q⟩
        refine rd 1 ?_ n1 (by omega) hL (by omega)
        refine rd 2 ?_ n2 (by omega) hL (by omega)
        rw [w1, w2]
        refine q_rowat hr r1.1 r1.2 r2.1 r2.2 (fun g0 g1 g2 g3 => absurd ⟨g0, g1, g2, g3⟩ hv) (fun _ => ?_)
        unfold wp_Mo_thrown
        exact ⟨fun _ => ⟨fun _ => nx base range low start z r t B RV TG PB MR MT DP DR NR SP ds drs nr st bk fs en at9 ft W _ A Li F C bf g h6 hI, fun q => absurd q (by decide)⟩, fun q => absurd rfl q⟩
    -- find
    refine br_eq ((xs (6 * q)).toInt % 16) 6 (fun _ => ?_) (fun _ => ?_)
    · refine rd 1 ?_ n1 (by omega) hL (by omega)
      refine p_find hr hRV ?_
      refine rd 1 ?_ n1 (by omega) hL (by omega)
      refine q_find hr hMR hla ?_
      exact ⟨fun _ => nx base range low start z r t B RV TG PB MR MT DP DR NR SP ds drs nr st bk fs en at9 ft W _ A Li F C bf g h6 hI, fun q => absurd rfl q⟩
    -- entry
    refine br_eq ((xs (6 * q)).toInt % 16) 7 (fun _ => ?_) (fun _ => ?_)
    · refine rd 1 ?_ n1 (by omega) hL (by omega)
      refine rd 2 ?_ n2 (by omega) hL (by omega)
      refine rd 3 ?_ n3 (by omega) hL (by omega)
      refine rd 4 ?_ n4 (by omega) hL (by omega)
      refine rd 5 ?_ n5 (by omega) hL (by omega)
      unfold wp_La_entry
      rw [w1, w2, w3, w4, w5]
      refine p_entry hT r1 r2 r3 r4 r5 (fun hv => ?_) (fun hv hn => ?_) (fun hv hn => ?_)
      · refine ⟨fun _ => ?_, fun q => absurd rfl q⟩
        refine rd 1 ?_ n1 (by omega) hL (by omega)
        refine rd 2 ?_ n2 (by omega) hL (by omega)
        refine rd 3 ?_ n3 (by omega) hL (by omega)
        refine rd 4 ?_ n4 (by omega) hL (by omega)
        refine rd 5 ?_ n5 (by omega) hL (by omega)
        rw [w1, w2, w3, w4, w5]
        refine q_entry hMT r1 r2 r3 r4 r5 (fun _ => ?_) (fun hv2 => absurd hv2 hv) (fun hv2 => absurd hv2 hv)
        unfold wp_Mo_thrown
        exact ⟨fun _ => ⟨fun _ => nx base range low start z r t B RV TG PB MR MT DP DR NR SP ds drs nr st bk fs en at9 ft W _ A Li F C bf g h6 hI, fun q => absurd q (by decide)⟩, fun q => absurd rfl q⟩
      · refine ⟨fun (q : (5 : Nat) = 2) => absurd q (by decide), fun _ => ⟨fun _ => ?_, fun q => absurd rfl q⟩⟩
        refine rd 1 ?_ n1 (by omega) hL (by omega)
        refine rd 2 ?_ n2 (by omega) hL (by omega)
        refine rd 3 ?_ n3 (by omega) hL (by omega)
        refine rd 4 ?_ n4 (by omega) hL (by omega)
        refine rd 5 ?_ n5 (by omega) hL (by omega)
        rw [w1, w2, w3, w4, w5]
        refine q_entry hMT r1 r2 r3 r4 r5 (fun hv2 => absurd hv hv2) (fun _ _ => ?_) (fun _ hn2 => by omega)
        unfold wp_Mo_thrown
        exact ⟨fun _ => ⟨fun _ => nx base range low start z r t B RV TG PB MR MT DP DR NR SP ds drs nr st bk fs en at9 ft W _ A Li F C bf g h6 hI, fun q => absurd q (by decide)⟩, fun q => absurd rfl q⟩
      · refine wo ?_
        refine rd 1 ?_ n1 (by omega) hL (by omega)
        refine rd 2 ?_ n2 (by omega) hL (by omega)
        refine rd 3 ?_ n3 (by omega) hL (by omega)
        refine rd 4 ?_ n4 (by omega) hL (by omega)
        refine rd 5 ?_ n5 (by omega) hL (by omega)
        rw [w1, w2, w3, w4, w5]
        refine q_entry hMT r1 r2 r3 r4 r5 (fun hv2 => absurd hv hv2) (fun _ hn2 => by omega) (fun _ _ => ?_)
        unfold wp_Mo_thrown
        refine ⟨fun _ => ⟨fun q => absurd rfl q, fun _ => oc (g := g) ?_⟩, fun q => absurd rfl q⟩
        exact nx base range low start z r (t + 1) B RV _ PB MR _ DP DR NR SP ds drs nr st bk fs en at9 ft W _ A Li F C bf _ h6 ⟨b, R, _, hH, hB, hPB, hr, hRV, hMR, hla, tOk_up hT hv hn r1.2 r2.2 r3.2 r4.2, tOk_up hMT hv hn r1.2 r2.2 r3.2 r4.2⟩
    -- write
    refine br_eq ((xs (6 * q)).toInt % 16) 8 (fun _ => ?_) (fun _ => ?_)
    · refine rd 1 ?_ n1 (by omega) hL (by omega)
      unfold wp_La_write
      rw [w1]
      have re : v1 ≤ 2147483647 := by omega
      refine p_Lp_write hH hT re r1.1 (fun h1 u v => ?_) (fun h1 h2 u v => ?_) (fun h1 h2 h3 u v => ?_) (fun h1 h2 f' hf' => ?_)
      · refine ⟨fun _ => ?_, fun q => absurd rfl q⟩
        refine rd 1 ?_ n1 (by omega) hL (by omega)
        rw [w1]
        refine q_Mo_write hH hMT re r1.1 (fun _ => ?_) (fun h9 => by omega) (fun h9 => by omega) (fun h9 => by omega)
        unfold wp_Mo_thrown
        exact ⟨fun _ => ⟨fun _ => nx base range low start z r t B RV TG PB MR MT v DR NR SP u drs nr st bk fs en at9 ft W _ A Li F C bf g h6 hI, fun q => absurd q (by decide)⟩, fun q => absurd rfl q⟩
      · refine ⟨fun (q : (2 : Nat) = 6) => absurd q (by decide), fun _ => ⟨fun _ => ?_, fun q => absurd rfl q⟩⟩
        refine rd 1 ?_ n1 (by omega) hL (by omega)
        rw [w1]
        refine q_Mo_write hH hMT re r1.1 (fun h9 => by omega) (fun _ _ => ?_) (fun _ h9 => by omega) (fun _ h9 => by omega)
        unfold wp_Mo_thrown
        exact ⟨fun _ => ⟨fun _ => nx base range low start z r t B RV TG PB MR MT v DR NR SP u drs nr st bk fs en at9 ft W _ A Li F C bf g h6 hI, fun q => absurd q (by decide)⟩, fun q => absurd rfl q⟩
      · refine ⟨fun (q : (5 : Nat) = 6) => absurd q (by decide), fun _ => ⟨fun (q : (5 : Nat) = 2) => absurd q (by decide), fun _ => ⟨fun _ => ?_, fun q => absurd rfl q⟩⟩⟩
        refine rd 1 ?_ n1 (by omega) hL (by omega)
        rw [w1]
        refine q_Mo_write hH hMT re r1.1 (fun h9 => by omega) (fun _ h9 => by omega) (fun _ _ _ A Li F C S b9 fi W9 g9 => ?_) (fun _ _ h9 => by omega)
        unfold wp_Mo_thrown
        exact ⟨fun _ => ⟨fun _ => nx base range low start z r t B RV TG PB MR MT v DR NR g9 u drs nr S b9 fi en at9 ft W9 _ A Li F C bf g h6 hI, fun q => absurd q (by decide)⟩, fun q => absurd rfl q⟩
      · refine wo ?_
        refine rd 1 ?_ n1 (by omega) hL (by omega)
        rw [w1]
        refine q_Mo_write hH hMT re r1.1 (fun h9 => by omega) (fun _ h9 => by omega) (fun _ _ h9 => absurd hf'.1 (by omega)) (fun _ _ _ A Li F C S b9 fi f9 g9 hf9 => ?_)
        unfold wp_Mo_thrown
        refine ⟨fun _ => ⟨fun q => absurd rfl q, fun _ => oc (g := g) ?_⟩, fun q => absurd rfl q⟩
        have hE0 : ∀ {g : Nat → Int32}, tOk E 0 g := ⟨by omega, fun q hq => absurd hq (by omega), fun i hi => absurd hi (by omega), fun i hi => absurd hi (by omega)⟩
        exact nx base range low start _ r 0 f' RV TG f9 MR MT B DR NR g9 (iI z) drs nr S b9 fi en at9 ft _ _ A Li F C bf _ h6 ⟨_, R, E, hH, bOk_w hf', bOk_w hf9, hr, hRV, hMR, hla, hE0, hE0⟩
    -- count
    refine br_eq ((xs (6 * q)).toInt % 16) 9 (fun _ => ?_) (fun _ => ?_)
    · refine rd 1 ?_ n1 (by omega) hL (by omega)
      have fin : ∀ (y : Int32) (th : Int32), (y = y → ∀ v : Int32, v = iI (6 * (q : Int)) + Int32.ofInt 6 → wl_La_law xs L (k + 1) (iI base) (iI range) (iI low) (iI start) (iI ((255 - base) / range)) (iI z) B (iI r) RV (iI t) TG ds DP drs DR (iI base) (iI range) (iI low) (iI start) (iI z) (iI r) nr A Li F C st bk bf fs en at9 ft (iI t) W th PB MR NR MT SP g v) ∧ (¬ y = y → False) := fun y th => ⟨fun _ => nx base range low start z r t B RV TG PB MR MT DP DR NR SP ds drs nr st bk fs en at9 ft W _ A Li F C bf g h6 hI, fun q => absurd rfl q⟩
      unfold wp_Lp_count
      refine ⟨fun a0 => ?_, fun a0 => ⟨fun a1 => ?_, fun a1 => ⟨fun a2 => ?_, fun a2 => ?_⟩⟩⟩
      · refine rd 1 ?_ n1 (by omega) hL (by omega)
        unfold wp_Mo_count
        exact ⟨fun q => absurd a0 q, fun _ => fin _ _⟩
      · refine rd 1 ?_ n1 (by omega) hL (by omega)
        unfold wp_Mo_count
        exact ⟨fun _ => ⟨fun q => absurd a1 q, fun _ => fin _ _⟩, fun q => absurd q a0⟩
      · refine rd 1 ?_ n1 (by omega) hL (by omega)
        unfold wp_Mo_count
        exact ⟨fun _ => ⟨fun _ => ⟨fun q => absurd a2 q, fun _ => fin _ _⟩, fun q => absurd q a1⟩, fun q => absurd q a0⟩
      · refine rd 1 ?_ n1 (by omega) hL (by omega)
        unfold wp_Mo_count
        exact ⟨fun _ => ⟨fun _ => ⟨fun _ => fin _ _, fun q => absurd q a2⟩, fun q => absurd q a1⟩, fun q => absurd q a0⟩
    -- another number
    exact nx base range low start z r t B RV TG PB MR MT DP DR NR SP ds drs nr st bk fs en at9 ft W _ A Li F C bf g h6 hI
end LAW
