theorem law_start {xs : Nat → Int32} {L : Nat} (hL : L ≤ 3072) : wp_La_law xs L := by
  unfold wp_La_law wp_Lp_init wp_He_init wp_By_init wp_Ro_init wp_Ta_init wp_Mo_init
  refine st_v (iI 242) (by decide) ?_
  refine ⟨by decide, ?_⟩
  refine st_v (iI 17) (by decide) ?_
  have q := law_ok (xs := xs) hL 512 0 13 14 (-5) 1 0 0 0 (fun _ => 0) (fun _ => 0) (fun _ => 0) (fun _ => 0) (fun _ => 0) (fun _ => 0) (fun _ => 0) (fun _ => 0) (fun _ => 0) (fun _ => 0) 0 0 0 0 0 0 0 0 0 0 0 0 0 0 0 0 (fun _ => 0) (by omega) (by omega) ⟨fun _ => 0, fun _ => 0, fun _ => 0, by unfold hOk; omega, ⟨by omega, fun i hi => absurd hi (Nat.not_lt_zero i)⟩, ⟨by omega, fun i hi => absurd hi (Nat.not_lt_zero i)⟩, by omega, fun q hq => rfl, fun q hq => rfl, Or.inl rfl, ⟨by omega, fun q hq => absurd hq (by omega), fun i hi => absurd hi (by omega), fun i hi => absurd hi (by omega)⟩, ⟨by omega, fun q hq => absurd hq (by omega), fun i hi => absurd hi (by omega), fun i hi => absurd hi (by omega)⟩⟩
  exact q
