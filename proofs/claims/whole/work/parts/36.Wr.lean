abbrev zo_Wr_init : Room := { frames := 1, cells := 0, slots := 0, locals := 20 }
abbrev zb_Wr_init (dC : Nat → ClassId) (dI : Nat → Nat → Nat) (A : Nat → Prop) (h1 h2 h2_0 h0 : Nat) (c2_0 : ClassId) (v1_base : Int32) (v1_range : Int32) (v1_low : Int32) (v1_start : Int32) (v1_step : Int32) (v2_size : Int32) (g2_values : Nat → Int32) (u : Int32 × Int32 × Int32) (t : State) : Prop := va_P (dC, dI) zC [(h1, .inr (1, [.int v1_base, .int v1_range, .int v1_low, .int v1_start, .int v1_step])), (h2, .inr (0, [.ref h2_0, .int v2_size])), (h2_0, .inl (c2_0, 600, .inl g2_values)), (h0, .inr (6, [.ref h1, .ref h2, .int 0, .int u.1, .int u.2.1, .int 0, .int u.2.2]))] t.heap ∧ va_K (dC, dI) zC [(c2_0, .int)] t ∧ va_D A [(h1, .inr (1, [.int v1_base, .int v1_range, .int v1_low, .int v1_start, .int v1_step])), (h2, .inr (0, [.ref h2_0, .int v2_size])), (h2_0, .inl (c2_0, 600, .inl g2_values)), (h0, .inr (6, [.ref h1, .ref h2, .int 0, .int u.1, .int u.2.1, .int 0, .int u.2.2]))]
set_option maxHeartbeats 4000000 in
set_option maxRecDepth 100000 in
theorem mt_Wr_init (l : Launch) (dC : Nat → ClassId) (dI : Nat → Nat → Nat) (h1 h2 h2_0 h0 sz : Nat) (c2_0 : ClassId) (v1_base : Int32) (v1_range : Int32) (v1_low : Int32) (v1_start : Int32) (v1_step : Int32) (v2_size : Int32) (g2_values : Nat → Int32) (post : (Int32 × Int32 × Int32) → Prop) (hw : wp_Wr_init v1_start post) : Met l zy_Wr_init zs_Wr_init zo_Wr_init (zP dC dI [.ref h0, .ref h1, .ref h2] sz [(h1, .inr (1, [.int v1_base, .int v1_range, .int v1_low, .int v1_start, .int v1_step])), (h2, .inr (0, [.ref h2_0, .int v2_size])), (h2_0, .inl (c2_0, 600, .inl g2_values)), (h0, .inr (6, [.null, .null, .int 0, .int 0, .int 0, .int 0, .int 0]))] [(c2_0, .int)]) (va_Qv (fun (u : Int32 × Int32 × Int32) => post u) (zb_Wr_init dC dI (va_A [(h1, .inr (1, [.int v1_base, .int v1_range, .int v1_low, .int v1_start, .int v1_step])), (h2, .inr (0, [.ref h2_0, .int v2_size])), (h2_0, .inl (c2_0, 600, .inl g2_values)), (h0, .inr (6, [.null, .null, .int 0, .int 0, .int 0, .int 0, .int 0]))] sz) h1 h2 h2_0 h0 c2_0 v1_base v1_range v1_low v1_start v1_step v2_size g2_values) (va_A [(h1, .inr (1, [.int v1_base, .int v1_range, .int v1_low, .int v1_start, .int v1_step])), (h2, .inr (0, [.ref h2_0, .int v2_size])), (h2_0, .inl (c2_0, 600, .inl g2_values)), (h0, .inr (6, [.null, .null, .int 0, .int 0, .int 0, .int 0, .int 0]))] sz)) 0 0 (va_A [(h1, .inr (1, [.int v1_base, .int v1_range, .int v1_low, .int v1_start, .int v1_step])), (h2, .inr (0, [.ref h2_0, .int v2_size])), (h2_0, .inl (c2_0, 600, .inl g2_values)), (h0, .inr (6, [.null, .null, .int 0, .int 0, .int 0, .int 0, .int 0]))] sz) := by
  unfold wp_Wr_init at hw
  refine Met.ofW (cc := zc_Wr_init) (maxL := 3) (ret := none) (by decide) rfl ?_
  intro p e s m args below meth c s₁ B hml hv
  obtain ⟨rfl, hsz, hP, hK, hD0⟩ := hv
  have hx := B.exec
  have hb := B.bytes
  have hr := B.returns
  have hts := atoms_spec (ws := zs_Wr_init) B.pre
  have htb := fun w (h : w ∈ zB) => hts w (List.mem_cons_of_mem _ h)
  have hown : s.vm.findClass zr_6 = some m.cls := findClass_of_methodNamed B.named
  have hlocks := B.notSynchronized
  have hin : meth.name = "<init>" := (name_of_methodNamed B.named B.method).1
  subst hsz
  have hD := hD0.self (sz := s.heap.size)
  generalize hAe : va_A [(h1, .inr (1, [.int v1_base, .int v1_range, .int v1_low, .int v1_start, .int v1_step])), (h2, .inr (0, [.ref h2_0, .int v2_size])), (h2_0, .inl (c2_0, 600, .inl g2_values)), (h0, .inr (6, [.null, .null, .int 0, .int 0, .int 0, .int 0, .int 0]))] s.heap.size = A at hD ⊢
  have hA : ∀ q : Nat, s.heap.size ≤ q → A q := fun q h => by rw [← hAe]; exact Or.inr h
  clear hAe hD0
  have hl := lv_entry ([.ref h0, .ref h1, .ref h2]) (n := 3) (Nat.le_of_ble_eq_true rfl)
  rw [lg_entry_eq]
  generalize (lg_sl ([.ref h0, .ref h1, .ref h2]) ++ List.replicate (3 - (lg_sl ([.ref h0, .ref h1, .ref h2])).length) Slot.unset).toArray = ls at hl ⊢
  have hl : lv_has ls 3 [(0, .ref h0), (1, .ref h1), (2, .ref h2)] := hl
  obtain ⟨H, hH⟩ : ∃ H, H = s.heap := ⟨_, rfl⟩
  have hS : va_S A s.heap H [] := by rw [hH]; exact va_S.rf
  rw [← hH] at hP ⊢
  refine lv_aload_n hx hb zd_Wr_init_0 rfl (lv_at hl 0 rfl) ?_
  refine W.objInit hx hb hown (htb _ zw_533) (htb _ zw_25) (htb _ zw_26) rfl (by rw [hml]; exact hl.1) rfl zd_Wr_init_1 (Nat.le_of_ble_eq_true rfl) (Nat.le_of_ble_eq_true rfl) ?_
  refine W.eq (g2 := F0 m 4 ls []) rfl ?_
  refine lv_aload_n hx hb zd_Wr_init_4 rfl (lv_at hl 0 rfl) ?_
  refine lv_iconst (v := 0) hx hb zd_Wr_init_5 (by decide) ?_
  refine va_put (D := (dC, dI)) (ci := 6) (v := .int 0) (ty := .int) (C := zr_6) (T := zt_6) (N := 7) hx hb htb zi_6 zf_6 zk_6 zn_6 hown hK hP hD hS 3 rfl rfl 2 (by decide) (htb _ zw_536) (fun _ h9 => h9) rfl (by decide +kernel) rfl rfl (Nat.le_of_ble_eq_true rfl) zd_Wr_init_6 (fun H locs hP hD hS => ?_)
  have hP : va_P (dC, dI) zC [(h1, .inr (1, [.int v1_base, .int v1_range, .int v1_low, .int v1_start, .int v1_step])), (h2, .inr (0, [.ref h2_0, .int v2_size])), (h2_0, .inl (c2_0, 600, .inl g2_values)), (h0, .inr (6, [.null, .null, .int 0, .int 0, .int 0, .int 0, .int 0]))] H := hP
  have hD : va_D A [(h1, .inr (1, [.int v1_base, .int v1_range, .int v1_low, .int v1_start, .int v1_step])), (h2, .inr (0, [.ref h2_0, .int v2_size])), (h2_0, .inl (c2_0, 600, .inl g2_values)), (h0, .inr (6, [.null, .null, .int 0, .int 0, .int 0, .int 0, .int 0]))] := hD
  refine lv_aload_n hx hb zd_Wr_init_9 rfl (lv_at hl 0 rfl) ?_
  refine lv_iconst (v := 1) hx hb zd_Wr_init_10 (by decide) ?_
  refine va_put (D := (dC, dI)) (ci := 6) (v := .int 1) (ty := .int) (C := zr_6) (T := zt_6) (N := 7) hx hb htb zi_6 zf_6 zk_6 zn_6 hown hK hP hD hS 3 rfl rfl 3 (by decide) (htb _ zw_537) (fun _ h9 => h9) rfl (by decide +kernel) rfl rfl (Nat.le_of_ble_eq_true rfl) zd_Wr_init_11 (fun H locs hP hD hS => ?_)
  have hP : va_P (dC, dI) zC [(h1, .inr (1, [.int v1_base, .int v1_range, .int v1_low, .int v1_start, .int v1_step])), (h2, .inr (0, [.ref h2_0, .int v2_size])), (h2_0, .inl (c2_0, 600, .inl g2_values)), (h0, .inr (6, [.null, .null, .int 0, .int 1, .int 0, .int 0, .int 0]))] H := hP
  have hD : va_D A [(h1, .inr (1, [.int v1_base, .int v1_range, .int v1_low, .int v1_start, .int v1_step])), (h2, .inr (0, [.ref h2_0, .int v2_size])), (h2_0, .inl (c2_0, 600, .inl g2_values)), (h0, .inr (6, [.null, .null, .int 0, .int 1, .int 0, .int 0, .int 0]))] := hD
  refine lv_aload_n hx hb zd_Wr_init_14 rfl (lv_at hl 0 rfl) ?_
  refine lv_iconst (v := 1) hx hb zd_Wr_init_15 (by decide) ?_
  refine va_put (D := (dC, dI)) (ci := 6) (v := .int 1) (ty := .int) (C := zr_6) (T := zt_6) (N := 7) hx hb htb zi_6 zf_6 zk_6 zn_6 hown hK hP hD hS 3 rfl rfl 4 (by decide) (htb _ zw_538) (fun _ h9 => h9) rfl (by decide +kernel) rfl rfl (Nat.le_of_ble_eq_true rfl) zd_Wr_init_16 (fun H locs hP hD hS => ?_)
  have hP : va_P (dC, dI) zC [(h1, .inr (1, [.int v1_base, .int v1_range, .int v1_low, .int v1_start, .int v1_step])), (h2, .inr (0, [.ref h2_0, .int v2_size])), (h2_0, .inl (c2_0, 600, .inl g2_values)), (h0, .inr (6, [.null, .null, .int 0, .int 1, .int 1, .int 0, .int 0]))] H := hP
  have hD : va_D A [(h1, .inr (1, [.int v1_base, .int v1_range, .int v1_low, .int v1_start, .int v1_step])), (h2, .inr (0, [.ref h2_0, .int v2_size])), (h2_0, .inl (c2_0, 600, .inl g2_values)), (h0, .inr (6, [.null, .null, .int 0, .int 1, .int 1, .int 0, .int 0]))] := hD
  refine lv_aload_n hx hb zd_Wr_init_19 rfl (lv_at hl 0 rfl) ?_
  refine lv_iconst (v := 0) hx hb zd_Wr_init_20 (by decide) ?_
  refine va_put (D := (dC, dI)) (ci := 6) (v := .int 0) (ty := .int) (C := zr_6) (T := zt_6) (N := 7) hx hb htb zi_6 zf_6 zk_6 zn_6 hown hK hP hD hS 3 rfl rfl 5 (by decide) (htb _ zw_539) (fun _ h9 => h9) rfl (by decide +kernel) rfl rfl (Nat.le_of_ble_eq_true rfl) zd_Wr_init_21 (fun H locs hP hD hS => ?_)
  have hP : va_P (dC, dI) zC [(h1, .inr (1, [.int v1_base, .int v1_range, .int v1_low, .int v1_start, .int v1_step])), (h2, .inr (0, [.ref h2_0, .int v2_size])), (h2_0, .inl (c2_0, 600, .inl g2_values)), (h0, .inr (6, [.null, .null, .int 0, .int 1, .int 1, .int 0, .int 0]))] H := hP
  have hD : va_D A [(h1, .inr (1, [.int v1_base, .int v1_range, .int v1_low, .int v1_start, .int v1_step])), (h2, .inr (0, [.ref h2_0, .int v2_size])), (h2_0, .inl (c2_0, 600, .inl g2_values)), (h0, .inr (6, [.null, .null, .int 0, .int 1, .int 1, .int 0, .int 0]))] := hD
  refine lv_aload_n hx hb zd_Wr_init_24 rfl (lv_at hl 0 rfl) ?_
  refine lv_aload_n hx hb zd_Wr_init_25 rfl (lv_at hl 1 rfl) ?_
  refine va_putF (D := (dC, dI)) (ci := 6) (v := .ref h1) (ty := (.object "LinePrograms$Header")) (C := zr_6) (T := zt_6) (N := 7) hx hb htb zi_6 zf_6 zk_6 zn_6 hown hK hP hD hS 3 rfl rfl 0 (by decide) (htb _ zw_534) (fun _ h9 => h9) rfl hin rfl (by decide +kernel) rfl rfl (Nat.le_of_ble_eq_true rfl) zd_Wr_init_26 (fun H locs hP hD hS => ?_)
  have hP : va_P (dC, dI) zC [(h1, .inr (1, [.int v1_base, .int v1_range, .int v1_low, .int v1_start, .int v1_step])), (h2, .inr (0, [.ref h2_0, .int v2_size])), (h2_0, .inl (c2_0, 600, .inl g2_values)), (h0, .inr (6, [.ref h1, .null, .int 0, .int 1, .int 1, .int 0, .int 0]))] H := hP
  have hD : va_D A [(h1, .inr (1, [.int v1_base, .int v1_range, .int v1_low, .int v1_start, .int v1_step])), (h2, .inr (0, [.ref h2_0, .int v2_size])), (h2_0, .inl (c2_0, 600, .inl g2_values)), (h0, .inr (6, [.ref h1, .null, .int 0, .int 1, .int 1, .int 0, .int 0]))] := hD
  refine lv_aload_n hx hb zd_Wr_init_29 rfl (lv_at hl 0 rfl) ?_
  refine lv_aload_n hx hb zd_Wr_init_30 rfl (lv_at hl 2 rfl) ?_
  refine va_putF (D := (dC, dI)) (ci := 6) (v := .ref h2) (ty := (.object "LinePrograms$Bytes")) (C := zr_6) (T := zt_6) (N := 7) hx hb htb zi_6 zf_6 zk_6 zn_6 hown hK hP hD hS 3 rfl rfl 1 (by decide) (htb _ zw_535) (fun _ h9 => h9) rfl hin rfl (by decide +kernel) rfl rfl (Nat.le_of_ble_eq_true rfl) zd_Wr_init_31 (fun H locs hP hD hS => ?_)
  have hP : va_P (dC, dI) zC [(h1, .inr (1, [.int v1_base, .int v1_range, .int v1_low, .int v1_start, .int v1_step])), (h2, .inr (0, [.ref h2_0, .int v2_size])), (h2_0, .inl (c2_0, 600, .inl g2_values)), (h0, .inr (6, [.ref h1, .ref h2, .int 0, .int 1, .int 1, .int 0, .int 0]))] H := hP
  have hD : va_D A [(h1, .inr (1, [.int v1_base, .int v1_range, .int v1_low, .int v1_start, .int v1_step])), (h2, .inr (0, [.ref h2_0, .int v2_size])), (h2_0, .inl (c2_0, 600, .inl g2_values)), (h0, .inr (6, [.ref h1, .ref h2, .int 0, .int 1, .int 1, .int 0, .int 0]))] := hD
  refine lv_aload_n hx hb zd_Wr_init_34 rfl (lv_at hl 0 rfl) ?_
  refine lv_aload_n hx hb zd_Wr_init_35 rfl (lv_at hl 1 rfl) ?_
  refine va_get (D := (dC, dI)) (ci := 1) (v := .int v1_start) (C := zr_1) (T := zt_1) (N := 5) hx hb htb zi_1 hown hK hP 0 rfl rfl 3 (by decide) (htb _ zw_43) (fun _ h9 => h9) rfl zd_Wr_init_36 ?_
  refine va_put (D := (dC, dI)) (ci := 6) (v := .int v1_start) (ty := .int) (C := zr_6) (T := zt_6) (N := 7) hx hb htb zi_6 zf_6 zk_6 zn_6 hown hK hP hD hS 3 rfl rfl 6 (by decide) (htb _ zw_540) (fun _ h9 => h9) rfl (by decide +kernel) rfl rfl (Nat.le_of_ble_eq_true rfl) zd_Wr_init_39 (fun H locs hP hD hS => ?_)
  have hP : va_P (dC, dI) zC [(h1, .inr (1, [.int v1_base, .int v1_range, .int v1_low, .int v1_start, .int v1_step])), (h2, .inr (0, [.ref h2_0, .int v2_size])), (h2_0, .inl (c2_0, 600, .inl g2_values)), (h0, .inr (6, [.ref h1, .ref h2, .int 0, .int 1, .int 1, .int 0, .int v1_start]))] H := hP
  have hD : va_D A [(h1, .inr (1, [.int v1_base, .int v1_range, .int v1_low, .int v1_start, .int v1_step])), (h2, .inr (0, [.ref h2_0, .int v2_size])), (h2_0, .inl (c2_0, 600, .inl g2_values)), (h0, .inr (6, [.ref h1, .ref h2, .int 0, .int 1, .int 1, .int 0, .int v1_start]))] := hD
  have hP9 := hP.sub (ws' := [(h1, .inr (1, [.int v1_base, .int v1_range, .int v1_low, .int v1_start, .int v1_step])), (h2, .inr (0, [.ref h2_0, .int v2_size])), (h2_0, .inl (c2_0, 600, .inl g2_values)), (h0, .inr (6, [.ref h1, .ref h2, .int 0, .int 1, .int 1, .int 0, .int v1_start]))]) [0, 1, 2, 3] rfl
  have hD9 := hD.sub (ws' := [(h1, .inr (1, [.int v1_base, .int v1_range, .int v1_low, .int v1_start, .int v1_step])), (h2, .inr (0, [.ref h2_0, .int v2_size])), (h2_0, .inl (c2_0, 600, .inl g2_values)), (h0, .inr (6, [.ref h1, .ref h2, .int 0, .int 1, .int 1, .int 0, .int v1_start]))]) [0, 1, 2, 3] (by decide) rfl
  have hK9 := hK.sub (tys' := [(c2_0, .int)]) [0] rfl
  refine W.widen (k := 0) (n := 0) (Nat.le_of_ble_eq_true rfl) (Nat.le_of_ble_eq_true rfl) ?_
  exact W.vret hx hb hr (fun t ht hW => ⟨⟨(1, 1, v1_start), rfl, hw, by rw [ht]; exact hP9, va_K.moved hW.alike hK9, hD9⟩, hS.F ht⟩) hS.2.2 zd_Wr_init_42
abbrev zo_Wr_isByte : Room := { frames := 0, cells := 0, slots := 0, locals := 0 }
abbrev zb_Wr_isByte (dC : Nat → ClassId) (dI : Nat → Nat → Nat) (A : Nat → Prop) (u : Unit) (t : State) : Prop := va_P (dC, dI) zC [] t.heap ∧ va_K (dC, dI) zC [] t ∧ va_D A []
set_option maxHeartbeats 4000000 in
set_option maxRecDepth 100000 in
theorem mt_Wr_isByte (l : Launch) (dC : Nat → ClassId) (dI : Nat → Nat → Nat) (sz : Nat) (p0 : Int64) (post : Int32 → Unit → Prop) (hw : wp_Wr_isByte p0 post) : Met l zy_Wr_isByte zs_Wr_isByte zo_Wr_isByte (zP dC dI [.long p0] sz [] []) (va_Qi (fun (r : Int32) (u : Unit) => post r u) (zb_Wr_isByte dC dI (va_A [] sz)) (va_A [] sz)) 0 0 (va_A [] sz) := by
  unfold wp_Wr_isByte at hw
  refine Met.ofW (cc := zc_Wr_isByte) (maxL := 2) (ret := (some .boolean)) (by decide) rfl ?_
  intro p e s m args below meth c s₁ B hml hv
  obtain ⟨rfl, hsz, hP, hK, hD0⟩ := hv
  have hx := B.exec
  have hb := B.bytes
  have hr := B.returns
  have hts := atoms_spec (ws := zs_Wr_isByte) B.pre
  have htb := fun w (h : w ∈ zB) => hts w (List.mem_cons_of_mem _ h)
  have hown : s.vm.findClass zr_6 = some m.cls := findClass_of_methodNamed B.named
  have hlocks := B.notSynchronized
  subst hsz
  have hD := hD0.self (sz := s.heap.size)
  generalize hAe : va_A [] s.heap.size = A at hD ⊢
  have hA : ∀ q : Nat, s.heap.size ≤ q → A q := fun q h => by rw [← hAe]; exact Or.inr h
  clear hAe hD0
  have hl := lv_entry ([.long p0]) (n := 2) (Nat.le_of_ble_eq_true rfl)
  rw [lg_entry_eq]
  generalize (lg_sl ([.long p0]) ++ List.replicate (2 - (lg_sl ([.long p0])).length) Slot.unset).toArray = ls at hl ⊢
  have hl : lv_has ls 2 [(0, .long p0)] := hl
  obtain ⟨H, hH⟩ : ∃ H, H = s.heap := ⟨_, rfl⟩
  have hS : va_S A s.heap H [] := by rw [hH]; exact va_S.rf
  rw [← hH] at hP ⊢
  refine lv_lload_n hx hb zd_Wr_isByte_0 rfl (lv_at hl 0 rfl) ?_
  refine lv_ldc2 (v := (255)) hx hb hown (htb _ zw_601) zd_Wr_isByte_1 ?_
  refine W.lcmp hx hb zd_Wr_isByte_4 ?_
  refine lv_topi (fun x1 ex1 => ?_)
  have hw := hw x1 ex1
  refine lv_if_gt (tgt := 12) hx hb zd_Wr_isByte_5 (by decide) (fun h2 => ?_) (fun h2 => ?_)
  · have hw := hw.1 h2
    refine lv_iconst (v := 0) hx hb zd_Wr_isByte_12 (by decide) ?_
    have hP9 := hP.sub (ws' := []) [] rfl
    have hD9 := hD.sub (ws' := []) [] (by decide) rfl
    have hK9 := hK.sub (tys' := []) [] rfl
    refine W.widen (k := 0) (n := 0) (Nat.le_of_ble_eq_true rfl) (Nat.le_of_ble_eq_true rfl) ?_
    exact W.zret (v := 0) hx hb hr (by decide) (fun t ht hW => ⟨⟨0, (), rfl, hw, by rw [ht]; exact hP9, va_K.moved hW.alike hK9, hD9⟩, hS.F ht⟩) hS.2.2 zd_Wr_isByte_13
  · have hw := hw.2 h2
    refine lv_iconst (v := 1) hx hb zd_Wr_isByte_8 (by decide) ?_
    refine lv_goto (tgt := 13) hx hb zd_Wr_isByte_9 (by decide) ?_
    have hP9 := hP.sub (ws' := []) [] rfl
    have hD9 := hD.sub (ws' := []) [] (by decide) rfl
    have hK9 := hK.sub (tys' := []) [] rfl
    refine W.widen (k := 0) (n := 0) (Nat.le_of_ble_eq_true rfl) (Nat.le_of_ble_eq_true rfl) ?_
    exact W.zret (v := 1) hx hb hr (by decide) (fun t ht hW => ⟨⟨1, (), rfl, hw, by rw [ht]; exact hP9, va_K.moved hW.alike hK9, hD9⟩, hS.F ht⟩) hS.2.2 zd_Wr_isByte_13
abbrev zo_Wr_special : Room := { frames := 0, cells := 0, slots := 0, locals := 0 }
abbrev zb_Wr_special (dC : Nat → ClassId) (dI : Nat → Nat → Nat) (A : Nat → Prop) (h0 h0_0 h0_1 h0_1_0 : Nat) (c0_1_0 : ClassId) (v0_address : Int32) (v0_file : Int32) (v0_line : Int32) (v0_column : Int32) (v0_statement : Int32) (v0_0_base : Int32) (v0_0_range : Int32) (v0_0_low : Int32) (v0_0_start : Int32) (v0_0_step : Int32) (v0_1_size : Int32) (g0_1_values : Nat → Int32) (u : Unit) (t : State) : Prop := va_P (dC, dI) zC [(h0, .inr (6, [.ref h0_0, .ref h0_1, .int v0_address, .int v0_file, .int v0_line, .int v0_column, .int v0_statement])), (h0_0, .inr (1, [.int v0_0_base, .int v0_0_range, .int v0_0_low, .int v0_0_start, .int v0_0_step])), (h0_1, .inr (0, [.ref h0_1_0, .int v0_1_size])), (h0_1_0, .inl (c0_1_0, 600, .inl g0_1_values))] t.heap ∧ va_K (dC, dI) zC [(c0_1_0, .int)] t ∧ va_D A [(h0, .inr (6, [.ref h0_0, .ref h0_1, .int v0_address, .int v0_file, .int v0_line, .int v0_column, .int v0_statement])), (h0_0, .inr (1, [.int v0_0_base, .int v0_0_range, .int v0_0_low, .int v0_0_start, .int v0_0_step])), (h0_1, .inr (0, [.ref h0_1_0, .int v0_1_size])), (h0_1_0, .inl (c0_1_0, 600, .inl g0_1_values))]
set_option maxHeartbeats 4000000 in
set_option maxRecDepth 100000 in
theorem mt_Wr_special (l : Launch) (dC : Nat → ClassId) (dI : Nat → Nat → Nat) (h0 h0_0 h0_1 h0_1_0 sz : Nat) (c0_1_0 : ClassId) (v0_address : Int32) (v0_file : Int32) (v0_line : Int32) (v0_column : Int32) (v0_statement : Int32) (v0_0_base : Int32) (v0_0_range : Int32) (v0_0_low : Int32) (v0_0_start : Int32) (v0_0_step : Int32) (v0_1_size : Int32) (g0_1_values : Nat → Int32) (p0 : Int32) (p1 : Int32) (post : Int64 → Unit → Prop) (hw : wp_Wr_special v0_0_base v0_0_range v0_0_low p0 p1 post) : Met l zy_Wr_special zs_Wr_special zo_Wr_special (zP dC dI [.ref h0, .int p0, .int p1] sz [(h0, .inr (6, [.ref h0_0, .ref h0_1, .int v0_address, .int v0_file, .int v0_line, .int v0_column, .int v0_statement])), (h0_0, .inr (1, [.int v0_0_base, .int v0_0_range, .int v0_0_low, .int v0_0_start, .int v0_0_step])), (h0_1, .inr (0, [.ref h0_1_0, .int v0_1_size])), (h0_1_0, .inl (c0_1_0, 600, .inl g0_1_values))] [(c0_1_0, .int)]) (va_Ql (fun (r : Int64) (u : Unit) => post r u) (zb_Wr_special dC dI (va_A [(h0, .inr (6, [.ref h0_0, .ref h0_1, .int v0_address, .int v0_file, .int v0_line, .int v0_column, .int v0_statement])), (h0_0, .inr (1, [.int v0_0_base, .int v0_0_range, .int v0_0_low, .int v0_0_start, .int v0_0_step])), (h0_1, .inr (0, [.ref h0_1_0, .int v0_1_size])), (h0_1_0, .inl (c0_1_0, 600, .inl g0_1_values))] sz) h0 h0_0 h0_1 h0_1_0 c0_1_0 v0_address v0_file v0_line v0_column v0_statement v0_0_base v0_0_range v0_0_low v0_0_start v0_0_step v0_1_size g0_1_values) (va_A [(h0, .inr (6, [.ref h0_0, .ref h0_1, .int v0_address, .int v0_file, .int v0_line, .int v0_column, .int v0_statement])), (h0_0, .inr (1, [.int v0_0_base, .int v0_0_range, .int v0_0_low, .int v0_0_start, .int v0_0_step])), (h0_1, .inr (0, [.ref h0_1_0, .int v0_1_size])), (h0_1_0, .inl (c0_1_0, 600, .inl g0_1_values))] sz)) 0 0 (va_A [(h0, .inr (6, [.ref h0_0, .ref h0_1, .int v0_address, .int v0_file, .int v0_line, .int v0_column, .int v0_statement])), (h0_0, .inr (1, [.int v0_0_base, .int v0_0_range, .int v0_0_low, .int v0_0_start, .int v0_0_step])), (h0_1, .inr (0, [.ref h0_1_0, .int v0_1_size])), (h0_1_0, .inl (c0_1_0, 600, .inl g0_1_values))] sz) := by
  unfold wp_Wr_special at hw
  refine Met.ofW (cc := zc_Wr_special) (maxL := 3) (ret := (some .long)) (by decide) rfl ?_
  intro p e s m args below meth c s₁ B hml hv
  obtain ⟨rfl, hsz, hP, hK, hD0⟩ := hv
  have hx := B.exec
  have hb := B.bytes
  have hr := B.returns
  have hts := atoms_spec (ws := zs_Wr_special) B.pre
  have htb := fun w (h : w ∈ zB) => hts w (List.mem_cons_of_mem _ h)
  have hown : s.vm.findClass zr_6 = some m.cls := findClass_of_methodNamed B.named
  have hlocks := B.notSynchronized
  subst hsz
  have hD := hD0.self (sz := s.heap.size)
  generalize hAe : va_A [(h0, .inr (6, [.ref h0_0, .ref h0_1, .int v0_address, .int v0_file, .int v0_line, .int v0_column, .int v0_statement])), (h0_0, .inr (1, [.int v0_0_base, .int v0_0_range, .int v0_0_low, .int v0_0_start, .int v0_0_step])), (h0_1, .inr (0, [.ref h0_1_0, .int v0_1_size])), (h0_1_0, .inl (c0_1_0, 600, .inl g0_1_values))] s.heap.size = A at hD ⊢
  have hA : ∀ q : Nat, s.heap.size ≤ q → A q := fun q h => by rw [← hAe]; exact Or.inr h
  clear hAe hD0
  have hl := lv_entry ([.ref h0, .int p0, .int p1]) (n := 3) (Nat.le_of_ble_eq_true rfl)
  rw [lg_entry_eq]
  generalize (lg_sl ([.ref h0, .int p0, .int p1]) ++ List.replicate (3 - (lg_sl ([.ref h0, .int p0, .int p1])).length) Slot.unset).toArray = ls at hl ⊢
  have hl : lv_has ls 3 [(0, .ref h0), (1, .int p0), (2, .int p1)] := hl
  obtain ⟨H, hH⟩ : ∃ H, H = s.heap := ⟨_, rfl⟩
  have hS : va_S A s.heap H [] := by rw [hH]; exact va_S.rf
  rw [← hH] at hP ⊢
  refine lv_aload_n hx hb zd_Wr_special_0 rfl (lv_at hl 0 rfl) ?_
  refine va_get (D := (dC, dI)) (ci := 6) (v := .ref h0_0) (C := zr_6) (T := zt_6) (N := 7) hx hb htb zi_6 hown hK hP 0 rfl rfl 0 (by decide) (htb _ zw_534) (fun _ h9 => h9) rfl zd_Wr_special_1 ?_
  refine va_get (D := (dC, dI)) (ci := 1) (v := .int v0_0_base) (C := zr_1) (T := zt_1) (N := 5) hx hb htb zi_1 hown hK hP 1 rfl rfl 0 (by decide) (htb _ zw_35) (fun _ h9 => h9) rfl zd_Wr_special_4 ?_
  refine lv_iload_n hx hb zd_Wr_special_7 rfl (lv_at hl 2 rfl) ?_
  refine lv_iadd hx hb zd_Wr_special_8 ?_
  refine lv_topi (fun x1 ex1 => ?_)
  have hw := hw x1 ex1
  refine lv_aload_n hx hb zd_Wr_special_9 rfl (lv_at hl 0 rfl) ?_
  refine va_get (D := (dC, dI)) (ci := 6) (v := .ref h0_0) (C := zr_6) (T := zt_6) (N := 7) hx hb htb zi_6 hown hK hP 0 rfl rfl 0 (by decide) (htb _ zw_534) (fun _ h9 => h9) rfl zd_Wr_special_10 ?_
  refine va_get (D := (dC, dI)) (ci := 1) (v := .int v0_0_low) (C := zr_1) (T := zt_1) (N := 5) hx hb htb zi_1 hown hK hP 1 rfl rfl 2 (by decide) (htb _ zw_41) (fun _ h9 => h9) rfl zd_Wr_special_13 ?_
  refine lv_isub hx hb zd_Wr_special_16 ?_
  refine lv_topi (fun x2 ex2 => ?_)
  have hw := hw x2 ex2
  refine lv_i2l hx hb zd_Wr_special_17 rfl ?_
  refine lv_topl (fun x3 ex3 => ?_)
  have hw := hw x3 ex3
  refine lv_aload_n hx hb zd_Wr_special_18 rfl (lv_at hl 0 rfl) ?_
  refine va_get (D := (dC, dI)) (ci := 6) (v := .ref h0_0) (C := zr_6) (T := zt_6) (N := 7) hx hb htb zi_6 hown hK hP 0 rfl rfl 0 (by decide) (htb _ zw_534) (fun _ h9 => h9) rfl zd_Wr_special_19 ?_
  refine va_get (D := (dC, dI)) (ci := 1) (v := .int v0_0_range) (C := zr_1) (T := zt_1) (N := 5) hx hb htb zi_1 hown hK hP 1 rfl rfl 1 (by decide) (htb _ zw_38) (fun _ h9 => h9) rfl zd_Wr_special_22 ?_
  refine lv_i2l hx hb zd_Wr_special_25 rfl ?_
  refine lv_topl (fun x4 ex4 => ?_)
  have hw := hw x4 ex4
  refine lv_iload_n hx hb zd_Wr_special_26 rfl (lv_at hl 1 rfl) ?_
  refine lv_i2l hx hb zd_Wr_special_27 rfl ?_
  refine lv_topl (fun x5 ex5 => ?_)
  have hw := hw x5 ex5
  refine lv_lmul hx hb zd_Wr_special_28 ?_
  refine lv_topl (fun x6 ex6 => ?_)
  have hw := hw x6 ex6
  refine lv_ladd hx hb zd_Wr_special_29 ?_
  refine lv_topl (fun x7 ex7 => ?_)
  have hw := hw x7 ex7
  have hP9 := hP.sub (ws' := [(h0, .inr (6, [.ref h0_0, .ref h0_1, .int v0_address, .int v0_file, .int v0_line, .int v0_column, .int v0_statement])), (h0_0, .inr (1, [.int v0_0_base, .int v0_0_range, .int v0_0_low, .int v0_0_start, .int v0_0_step])), (h0_1, .inr (0, [.ref h0_1_0, .int v0_1_size])), (h0_1_0, .inl (c0_1_0, 600, .inl g0_1_values))]) [0, 1, 2, 3] rfl
  have hD9 := hD.sub (ws' := [(h0, .inr (6, [.ref h0_0, .ref h0_1, .int v0_address, .int v0_file, .int v0_line, .int v0_column, .int v0_statement])), (h0_0, .inr (1, [.int v0_0_base, .int v0_0_range, .int v0_0_low, .int v0_0_start, .int v0_0_step])), (h0_1, .inr (0, [.ref h0_1_0, .int v0_1_size])), (h0_1_0, .inl (c0_1_0, 600, .inl g0_1_values))]) [0, 1, 2, 3] (by decide) rfl
  have hK9 := hK.sub (tys' := [(c0_1_0, .int)]) [0] rfl
  refine W.widen (k := 0) (n := 0) (Nat.le_of_ble_eq_true rfl) (Nat.le_of_ble_eq_true rfl) ?_
  exact W.lret (v := x7) hx hb hr (fun t ht hW => ⟨⟨x7, (), rfl, hw, by rw [ht]; exact hP9, va_K.moved hW.alike hK9, hD9⟩, hS.F ht⟩) hS.2.2 zd_Wr_special_30
abbrev zo_Wr_writeUnsigned : Room := { frames := 7, cells := 1, slots := 6, locals := 111 }
abbrev zb_Wr_writeUnsigned (dC : Nat → ClassId) (dI : Nat → Nat → Nat) (A : Nat → Prop) (h0 h0_0 h0_1 h0_1_0 : Nat) (c0_1_0 : ClassId) (v0_address : Int32) (v0_file : Int32) (v0_line : Int32) (v0_column : Int32) (v0_statement : Int32) (v0_0_base : Int32) (v0_0_range : Int32) (v0_0_low : Int32) (v0_0_start : Int32) (v0_0_step : Int32) (u : Int32 × (Nat → Int32)) (t : State) : Prop := va_P (dC, dI) zC [(h0, .inr (6, [.ref h0_0, .ref h0_1, .int v0_address, .int v0_file, .int v0_line, .int v0_column, .int v0_statement])), (h0_0, .inr (1, [.int v0_0_base, .int v0_0_range, .int v0_0_low, .int v0_0_start, .int v0_0_step])), (h0_1, .inr (0, [.ref h0_1_0, .int u.1])), (h0_1_0, .inl (c0_1_0, 600, .inl u.2))] t.heap ∧ va_K (dC, dI) zC [(c0_1_0, .int)] t ∧ va_D A [(h0, .inr (6, [.ref h0_0, .ref h0_1, .int v0_address, .int v0_file, .int v0_line, .int v0_column, .int v0_statement])), (h0_0, .inr (1, [.int v0_0_base, .int v0_0_range, .int v0_0_low, .int v0_0_start, .int v0_0_step])), (h0_1, .inr (0, [.ref h0_1_0, .int u.1])), (h0_1_0, .inl (c0_1_0, 600, .inl u.2))]
abbrev zx_Wr_writeUnsigned (dC : Nat → ClassId) (dI : Nat → Nat → Nat) (A : Nat → Prop) (h0 h0_0 h0_1 h0_1_0 : Nat) (c0_1_0 : ClassId) (v0_address : Int32) (v0_file : Int32) (v0_line : Int32) (v0_column : Int32) (v0_statement : Int32) (v0_0_base : Int32) (v0_0_range : Int32) (v0_0_low : Int32) (v0_0_start : Int32) (v0_0_step : Int32) (E : String) (u : Nat × (Int32 × (Nat → Int32))) (t : State) : Prop := E = zE u.1 ∧ zb_Wr_writeUnsigned dC dI A h0 h0_0 h0_1 h0_1_0 c0_1_0 v0_address v0_file v0_line v0_column v0_statement v0_0_base v0_0_range v0_0_low v0_0_start v0_0_step u.2 t
set_option maxHeartbeats 4000000 in
set_option maxRecDepth 100000 in
theorem mt_Wr_writeUnsigned (l : Launch) (hl9 : l.stackTraces = false) (dC : Nat → ClassId) (dI : Nat → Nat → Nat) (sa : Nat → Nat) (h0 h0_0 h0_1 h0_1_0 sz : Nat) (c0_1_0 : ClassId) (v0_address : Int32) (v0_file : Int32) (v0_line : Int32) (v0_column : Int32) (v0_statement : Int32) (v0_0_base : Int32) (v0_0_range : Int32) (v0_0_low : Int32) (v0_0_start : Int32) (v0_0_step : Int32) (v0_1_size : Int32) (g0_1_values : Nat → Int32) (p0 : Int32) (post : (Int32 × (Nat → Int32)) → Prop) (postX : Nat × (Int32 × (Nat → Int32)) → Prop) (hw : wp_Wr_writeUnsigned v0_1_size g0_1_values p0 post postX) : tw_Met l zy_Wr_writeUnsigned zs_Wr_writeUnsigned zo_Wr_writeUnsigned (zPx dC dI sa [.ref h0, .int p0] sz [(h0, .inr (6, [.ref h0_0, .ref h0_1, .int v0_address, .int v0_file, .int v0_line, .int v0_column, .int v0_statement])), (h0_0, .inr (1, [.int v0_0_base, .int v0_0_range, .int v0_0_low, .int v0_0_start, .int v0_0_step])), (h0_1, .inr (0, [.ref h0_1_0, .int v0_1_size])), (h0_1_0, .inl (c0_1_0, 600, .inl g0_1_values))] [(c0_1_0, .int)]) (va_Qv (fun (u : Int32 × (Nat → Int32)) => post u) (zb_Wr_writeUnsigned dC dI (va_A [(h0, .inr (6, [.ref h0_0, .ref h0_1, .int v0_address, .int v0_file, .int v0_line, .int v0_column, .int v0_statement])), (h0_0, .inr (1, [.int v0_0_base, .int v0_0_range, .int v0_0_low, .int v0_0_start, .int v0_0_step])), (h0_1, .inr (0, [.ref h0_1_0, .int v0_1_size])), (h0_1_0, .inl (c0_1_0, 600, .inl g0_1_values))] sz) h0 h0_0 h0_1 h0_1_0 c0_1_0 v0_address v0_file v0_line v0_column v0_statement v0_0_base v0_0_range v0_0_low v0_0_start v0_0_step) (va_A [(h0, .inr (6, [.ref h0_0, .ref h0_1, .int v0_address, .int v0_file, .int v0_line, .int v0_column, .int v0_statement])), (h0_0, .inr (1, [.int v0_0_base, .int v0_0_range, .int v0_0_low, .int v0_0_start, .int v0_0_step])), (h0_1, .inr (0, [.ref h0_1_0, .int v0_1_size])), (h0_1_0, .inl (c0_1_0, 600, .inl g0_1_values))] sz)) (vx_X (fun (u : Nat × (Int32 × (Nat → Int32))) => postX u) (zx_Wr_writeUnsigned dC dI (va_A [(h0, .inr (6, [.ref h0_0, .ref h0_1, .int v0_address, .int v0_file, .int v0_line, .int v0_column, .int v0_statement])), (h0_0, .inr (1, [.int v0_0_base, .int v0_0_range, .int v0_0_low, .int v0_0_start, .int v0_0_step])), (h0_1, .inr (0, [.ref h0_1_0, .int v0_1_size])), (h0_1_0, .inl (c0_1_0, 600, .inl g0_1_values))] sz) h0 h0_0 h0_1 h0_1_0 c0_1_0 v0_address v0_file v0_line v0_column v0_statement v0_0_base v0_0_range v0_0_low v0_0_start v0_0_step) (va_A [(h0, .inr (6, [.ref h0_0, .ref h0_1, .int v0_address, .int v0_file, .int v0_line, .int v0_column, .int v0_statement])), (h0_0, .inr (1, [.int v0_0_base, .int v0_0_range, .int v0_0_low, .int v0_0_start, .int v0_0_step])), (h0_1, .inr (0, [.ref h0_1_0, .int v0_1_size])), (h0_1_0, .inl (c0_1_0, 600, .inl g0_1_values))] sz)) 0 0 1 6 (va_A [(h0, .inr (6, [.ref h0_0, .ref h0_1, .int v0_address, .int v0_file, .int v0_line, .int v0_column, .int v0_statement])), (h0_0, .inr (1, [.int v0_0_base, .int v0_0_range, .int v0_0_low, .int v0_0_start, .int v0_0_step])), (h0_1, .inr (0, [.ref h0_1_0, .int v0_1_size])), (h0_1_0, .inl (c0_1_0, 600, .inl g0_1_values))] sz) := by
  unfold wp_Wr_writeUnsigned at hw
  refine tw_ofW (cc := zc_Wr_writeUnsigned) (maxL := 4) (ret := none) (by decide) rfl ?_
  intro p e s m args below meth c s₁ B hml hEx hv
  obtain ⟨rfl, hsz, hP, hK, hD0, hZ⟩ := hv
  have hx := B.exec
  have hb := B.bytes
  have hr := B.returns
  have hts := atoms_spec (ws := zs_Wr_writeUnsigned) B.pre
  have htb := fun w (h : w ∈ zB) => hts w (List.mem_cons_of_mem _ h)
  have hown : s.vm.findClass zr_6 = some m.cls := findClass_of_methodNamed B.named
  have hlocks := B.notSynchronized
  subst hsz
  have hD := hD0.self (sz := s.heap.size)
  generalize hAe : va_A [(h0, .inr (6, [.ref h0_0, .ref h0_1, .int v0_address, .int v0_file, .int v0_line, .int v0_column, .int v0_statement])), (h0_0, .inr (1, [.int v0_0_base, .int v0_0_range, .int v0_0_low, .int v0_0_start, .int v0_0_step])), (h0_1, .inr (0, [.ref h0_1_0, .int v0_1_size])), (h0_1_0, .inl (c0_1_0, 600, .inl g0_1_values))] s.heap.size = A at hD hZ ⊢
  have hA : ∀ q : Nat, s.heap.size ≤ q → A q := fun q h => by rw [← hAe]; exact Or.inr h
  clear hAe hD0
  have hl := lv_entry ([.ref h0, .int p0]) (n := 4) (Nat.le_of_ble_eq_true rfl)
  rw [lg_entry_eq]
  generalize (lg_sl ([.ref h0, .int p0]) ++ List.replicate (4 - (lg_sl ([.ref h0, .int p0])).length) Slot.unset).toArray = ls at hl ⊢
  have hl : lv_has ls 4 [(0, .ref h0), (1, .int p0)] := hl
  obtain ⟨H, hH⟩ : ∃ H, H = s.heap := ⟨_, rfl⟩
  have hS : va_S A s.heap H [] := by rw [hH]; exact va_S.rf
  rw [← hH] at hP ⊢
  refine lv_iload_n hx hb zd_Wr_writeUnsigned_0 rfl (lv_at hl 1 rfl) ?_
  refine lv_istore_n (i := 2) (lv' := [(2, .int p0), (0, .ref h0), (1, .int p0)]) hx hb zd_Wr_writeUnsigned_1 rfl hl (by decide) rfl (fun ls hl => ?_)
  refine lv_iconst (v := 0) hx hb zd_Wr_writeUnsigned_2 (by decide) ?_
  refine lv_istore_n (i := 3) (lv' := [(3, .int 0), (2, .int p0), (0, .ref h0), (1, .int p0)]) hx hb zd_Wr_writeUnsigned_3 rfl hl (by decide) rfl (fun ls hl => ?_)
  have lp4 : ∀ (k : Nat) (v16 : Nat → Int32) (v17 : Int32) (v18 : Int32) (v19 : Int32) (ls : Array Slot) (H : Heap) (locs : List Loc), lv_has ls 4 [(3, .int v19), (2, .int v18), (0, .ref h0), (1, .int p0)] → va_P (dC, dI) zC [(h0, .inr (6, [.ref h0_0, .ref h0_1, .int v0_address, .int v0_file, .int v0_line, .int v0_column, .int v0_statement])), (h0_0, .inr (1, [.int v0_0_base, .int v0_0_range, .int v0_0_low, .int v0_0_start, .int v0_0_step])), (h0_1, .inr (0, [.ref h0_1_0, .int v17])), (h0_1_0, .inl (c0_1_0, 600, .inl v16))] H → va_D A [(h0, .inr (6, [.ref h0_0, .ref h0_1, .int v0_address, .int v0_file, .int v0_line, .int v0_column, .int v0_statement])), (h0_0, .inr (1, [.int v0_0_base, .int v0_0_range, .int v0_0_low, .int v0_0_start, .int v0_0_step])), (h0_1, .inr (0, [.ref h0_1_0, .int v17])), (h0_1_0, .inl (c0_1_0, 600, .inl v16))] → va_S A s.heap H locs → wl_Wr_writeUnsigned_4 post postX k v16 v17 v18 v19 → W p l e (headSpec zs_Wr_writeUnsigned zo_Wr_writeUnsigned).room s m [.ref h0, .int p0].toArray below meth c H locs 0 0 (tw_MQ below (va_Qv (fun (u : Int32 × (Nat → Int32)) => post u) (zb_Wr_writeUnsigned dC dI A h0 h0_0 h0_1 h0_1_0 c0_1_0 v0_address v0_file v0_line v0_column v0_statement v0_0_base v0_0_range v0_0_low v0_0_start v0_0_step) A) (vx_X (fun (u : Nat × (Int32 × (Nat → Int32))) => postX u) (zx_Wr_writeUnsigned dC dI A h0 h0_0 h0_1 h0_1_0 c0_1_0 v0_address v0_file v0_line v0_column v0_statement v0_0_base v0_0_range v0_0_low v0_0_start v0_0_step) A) [.ref h0, .int p0].toArray s 0 0 1 6 A) (F0 m 4 ls []) := by
    intro k
    induction k with
    | zero => intro v16 v17 v18 v19 ls H locs hl hP hD hS hw; exact False.elim hw
    | succ k ih =>
      intro v16 v17 v18 v19 ls H locs hl hP hD hS hw
      refine lv_iload_n hx hb zd_Wr_writeUnsigned_4 rfl (lv_at hl 0 rfl) ?_
      refine lv_iconst (v := 5) hx hb zd_Wr_writeUnsigned_5 (by decide) ?_
      refine lv_icmp_ge (tgt := 41) hx hb zd_Wr_writeUnsigned_6 (by decide) (fun h20 => ?_) (fun h20 => ?_)
      · have hw := hw.1 h20
        refine lv_aload_n hx hb zd_Wr_writeUnsigned_41 rfl (lv_at hl 2 rfl) ?_
        refine va_get (D := (dC, dI)) (ci := 6) (v := .ref h0_1) (C := zr_6) (T := zt_6) (N := 7) hx hb htb zi_6 hown hK hP 0 rfl rfl 1 (by decide) (htb _ zw_535) (fun _ h9 => h9) rfl zd_Wr_writeUnsigned_42 ?_
        refine lv_iload_n hx hb zd_Wr_writeUnsigned_45 rfl (lv_at hl 1 rfl) ?_
        have hPc := hP.sub (ws' := [(h0_1, .inr (0, [.ref h0_1_0, .int v17])), (h0_1_0, .inl (c0_1_0, 600, .inl v16))]) [2, 3] rfl
        have hDc := hD.sub (ws' := [(h0_1, .inr (0, [.ref h0_1_0, .int v17])), (h0_1_0, .inl (c0_1_0, 600, .inl v16))]) [2, 3] (by decide) rfl
        have hKc := hK.sub (tys' := [(c0_1_0, .int)]) [0] rfl
        have hFc := va_free (wc := [(h0_1, .inr (0, [.ref h0_1_0, .int v17])), (h0_1_0, .inl (c0_1_0, 600, .inl v16))]) hD hS hA [2, 3] rfl
        refine tw_callv (tw_runV (As := [.int v18]) (rest := []) ⟨hx, hb, hml, hown, htb⟩ (mt_By_append l hl9 dC dI sa h0_1 h0_1_0 H.size c0_1_0 v17 v16 v18 _ _ hw) (cwV 1 htb (zgV zw_565 zw_164 zw_165 zw_3 zw_166) rfl rfl rfl (by decide +kernel) ⟨(Nat.le_of_ble_eq_true rfl), (Nat.le_of_ble_eq_true rfl)⟩) ⟨zPx_blind, va_recv (ci := 0) (q0 := 2) hK hP rfl rfl, zPx_pre hZ hS hFc hPc hKc hDc⟩ rfl rfl hl.1 rfl (lv_room (Nat.le_of_ble_eq_true rfl)) zd_Wr_writeUnsigned_46 ⟨(Nat.le_of_ble_eq_true rfl), (Nat.le_of_ble_eq_true rfl)⟩) hS (fun q _ h => hFc q h) hFc (fun q _ h => hFc q h) (fun E9 ce9 q9 u21 t H1 locs ht hvm hw hB hz1 hk1 hS hce hcv hcl => ?_) (fun u21 t H1 locs ht hvm hw hB hz1 hk1 hS => ?_)
        · obtain ⟨hE, hB⟩ := hB
          obtain ⟨hP1, hK1, hD1⟩ := hB
          rw [ht] at hP1
          have hK1 := va_K.moved hvm.symm hK1
          obtain ⟨hP, hD⟩ := va_join (wr := [(h0, .inr (6, [.ref h0_0, .ref h0_1, .int v0_address, .int v0_file, .int v0_line, .int v0_column, .int v0_statement])), (h0_0, .inr (1, [.int v0_0_base, .int v0_0_range, .int v0_0_low, .int v0_0_start, .int v0_0_step]))]) (w1 := [(h0_1, .inr (0, [.ref h0_1_0, .int u21.2.1])), (h0_1_0, .inl (c0_1_0, 600, .inl u21.2.2))]) hP hD [2, 3] [0, 1] rfl rfl (by decide) (by decide) hk1 hFc hP1 hD1
          generalize H1 = H at hP hS hce ⊢
          have hP : va_P (dC, dI) zC [(h0, .inr (6, [.ref h0_0, .ref h0_1, .int v0_address, .int v0_file, .int v0_line, .int v0_column, .int v0_statement])), (h0_0, .inr (1, [.int v0_0_base, .int v0_0_range, .int v0_0_low, .int v0_0_start, .int v0_0_step])), (h0_1, .inr (0, [.ref h0_1_0, .int u21.2.1])), (h0_1_0, .inl (c0_1_0, 600, .inl u21.2.2))] H := hP
          have hD : va_D A [(h0, .inr (6, [.ref h0_0, .ref h0_1, .int v0_address, .int v0_file, .int v0_line, .int v0_column, .int v0_statement])), (h0_0, .inr (1, [.int v0_0_base, .int v0_0_range, .int v0_0_low, .int v0_0_start, .int v0_0_step])), (h0_1, .inr (0, [.ref h0_1_0, .int u21.2.1])), (h0_1_0, .inl (c0_1_0, 600, .inl u21.2.2))] := hD
          have hP9 := hP.sub (ws' := [(h0, .inr (6, [.ref h0_0, .ref h0_1, .int v0_address, .int v0_file, .int v0_line, .int v0_column, .int v0_statement])), (h0_0, .inr (1, [.int v0_0_base, .int v0_0_range, .int v0_0_low, .int v0_0_start, .int v0_0_step])), (h0_1, .inr (0, [.ref h0_1_0, .int u21.2.1])), (h0_1_0, .inl (c0_1_0, 600, .inl u21.2.2))]) [0, 1, 2, 3] rfl
          have hD9 := hD.sub (ws' := [(h0, .inr (6, [.ref h0_0, .ref h0_1, .int v0_address, .int v0_file, .int v0_line, .int v0_column, .int v0_statement])), (h0_0, .inr (1, [.int v0_0_base, .int v0_0_range, .int v0_0_low, .int v0_0_start, .int v0_0_step])), (h0_1, .inr (0, [.ref h0_1_0, .int u21.2.1])), (h0_1_0, .inl (c0_1_0, 600, .inl u21.2.2))]) [0, 1, 2, 3] (by decide) rfl
          have hK9 := hK.sub (tys' := [(c0_1_0, .int)]) [0] rfl
          exact tw_out (E := E9) (fun x hx => (hEx x hx).elim) hlocks hce hcv hcl (fun t ht ha => ⟨(u21.1, (u21.2.1, u21.2.2)), hw, ⟨hE, by rw [ht]; exact hP9, va_K.moved ha hK9, hD9⟩, hS.F ht⟩) hS.2.2 (Nat.le_of_ble_eq_true rfl) (Nat.le_of_ble_eq_true rfl)
        · skip
          obtain ⟨hP1, hK1, hD1⟩ := hB
          rw [ht] at hP1
          have hK1 := va_K.moved hvm.symm hK1
          obtain ⟨hP, hD⟩ := va_join (wr := [(h0, .inr (6, [.ref h0_0, .ref h0_1, .int v0_address, .int v0_file, .int v0_line, .int v0_column, .int v0_statement])), (h0_0, .inr (1, [.int v0_0_base, .int v0_0_range, .int v0_0_low, .int v0_0_start, .int v0_0_step]))]) (w1 := [(h0_1, .inr (0, [.ref h0_1_0, .int u21.1])), (h0_1_0, .inl (c0_1_0, 600, .inl u21.2))]) hP hD [2, 3] [0, 1] rfl rfl (by decide) (by decide) hk1 hFc hP1 hD1
          generalize H1 = H at hP hS ⊢
          have hP : va_P (dC, dI) zC [(h0, .inr (6, [.ref h0_0, .ref h0_1, .int v0_address, .int v0_file, .int v0_line, .int v0_column, .int v0_statement])), (h0_0, .inr (1, [.int v0_0_base, .int v0_0_range, .int v0_0_low, .int v0_0_start, .int v0_0_step])), (h0_1, .inr (0, [.ref h0_1_0, .int u21.1])), (h0_1_0, .inl (c0_1_0, 600, .inl u21.2))] H := hP
          have hD : va_D A [(h0, .inr (6, [.ref h0_0, .ref h0_1, .int v0_address, .int v0_file, .int v0_line, .int v0_column, .int v0_statement])), (h0_0, .inr (1, [.int v0_0_base, .int v0_0_range, .int v0_0_low, .int v0_0_start, .int v0_0_step])), (h0_1, .inr (0, [.ref h0_1_0, .int u21.1])), (h0_1_0, .inl (c0_1_0, 600, .inl u21.2))] := hD
          refine W.widen (k := 0) (n := 0) (Nat.le_of_ble_eq_true rfl) (Nat.le_of_ble_eq_true rfl) ?_
          have hP9 := hP.sub (ws' := [(h0, .inr (6, [.ref h0_0, .ref h0_1, .int v0_address, .int v0_file, .int v0_line, .int v0_column, .int v0_statement])), (h0_0, .inr (1, [.int v0_0_base, .int v0_0_range, .int v0_0_low, .int v0_0_start, .int v0_0_step])), (h0_1, .inr (0, [.ref h0_1_0, .int u21.1])), (h0_1_0, .inl (c0_1_0, 600, .inl u21.2))]) [0, 1, 2, 3] rfl
          have hD9 := hD.sub (ws' := [(h0, .inr (6, [.ref h0_0, .ref h0_1, .int v0_address, .int v0_file, .int v0_line, .int v0_column, .int v0_statement])), (h0_0, .inr (1, [.int v0_0_base, .int v0_0_range, .int v0_0_low, .int v0_0_start, .int v0_0_step])), (h0_1, .inr (0, [.ref h0_1_0, .int u21.1])), (h0_1_0, .inl (c0_1_0, 600, .inl u21.2))]) [0, 1, 2, 3] (by decide) rfl
          have hK9 := hK.sub (tys' := [(c0_1_0, .int)]) [0] rfl
          refine W.widen (k := 0) (n := 0) (Nat.le_of_ble_eq_true rfl) (Nat.le_of_ble_eq_true rfl) ?_
          refine tw_ret ?_
          exact W.vret hx hb hr (fun t ht hW => ⟨⟨(u21.1, u21.2), rfl, hw, by rw [ht]; exact hP9, va_K.moved hW.alike hK9, hD9⟩, hS.F ht⟩) hS.2.2 zd_Wr_writeUnsigned_49
      · have hw := hw.2 h20
        refine lv_iload_n hx hb zd_Wr_writeUnsigned_9 rfl (lv_at hl 1 rfl) ?_
        refine lv_bipush (v := 127) hx hb zd_Wr_writeUnsigned_10 (by decide) ?_
        refine lv_icmp_le (tgt := 41) hx hb zd_Wr_writeUnsigned_12 (by decide) (fun h24 => ?_) (fun h24 => ?_)
        · have hw := hw.1 h24
          refine lv_aload_n hx hb zd_Wr_writeUnsigned_41 rfl (lv_at hl 2 rfl) ?_
          refine va_get (D := (dC, dI)) (ci := 6) (v := .ref h0_1) (C := zr_6) (T := zt_6) (N := 7) hx hb htb zi_6 hown hK hP 0 rfl rfl 1 (by decide) (htb _ zw_535) (fun _ h9 => h9) rfl zd_Wr_writeUnsigned_42 ?_
          refine lv_iload_n hx hb zd_Wr_writeUnsigned_45 rfl (lv_at hl 1 rfl) ?_
          have hPc := hP.sub (ws' := [(h0_1, .inr (0, [.ref h0_1_0, .int v17])), (h0_1_0, .inl (c0_1_0, 600, .inl v16))]) [2, 3] rfl
          have hDc := hD.sub (ws' := [(h0_1, .inr (0, [.ref h0_1_0, .int v17])), (h0_1_0, .inl (c0_1_0, 600, .inl v16))]) [2, 3] (by decide) rfl
          have hKc := hK.sub (tys' := [(c0_1_0, .int)]) [0] rfl
          have hFc := va_free (wc := [(h0_1, .inr (0, [.ref h0_1_0, .int v17])), (h0_1_0, .inl (c0_1_0, 600, .inl v16))]) hD hS hA [2, 3] rfl
          refine tw_callv (tw_runV (As := [.int v18]) (rest := []) ⟨hx, hb, hml, hown, htb⟩ (mt_By_append l hl9 dC dI sa h0_1 h0_1_0 H.size c0_1_0 v17 v16 v18 _ _ hw) (cwV 1 htb (zgV zw_565 zw_164 zw_165 zw_3 zw_166) rfl rfl rfl (by decide +kernel) ⟨(Nat.le_of_ble_eq_true rfl), (Nat.le_of_ble_eq_true rfl)⟩) ⟨zPx_blind, va_recv (ci := 0) (q0 := 2) hK hP rfl rfl, zPx_pre hZ hS hFc hPc hKc hDc⟩ rfl rfl hl.1 rfl (lv_room (Nat.le_of_ble_eq_true rfl)) zd_Wr_writeUnsigned_46 ⟨(Nat.le_of_ble_eq_true rfl), (Nat.le_of_ble_eq_true rfl)⟩) hS (fun q _ h => hFc q h) hFc (fun q _ h => hFc q h) (fun E9 ce9 q9 u25 t H1 locs ht hvm hw hB hz1 hk1 hS hce hcv hcl => ?_) (fun u25 t H1 locs ht hvm hw hB hz1 hk1 hS => ?_)
          · obtain ⟨hE, hB⟩ := hB
            obtain ⟨hP1, hK1, hD1⟩ := hB
            rw [ht] at hP1
            have hK1 := va_K.moved hvm.symm hK1
            obtain ⟨hP, hD⟩ := va_join (wr := [(h0, .inr (6, [.ref h0_0, .ref h0_1, .int v0_address, .int v0_file, .int v0_line, .int v0_column, .int v0_statement])), (h0_0, .inr (1, [.int v0_0_base, .int v0_0_range, .int v0_0_low, .int v0_0_start, .int v0_0_step]))]) (w1 := [(h0_1, .inr (0, [.ref h0_1_0, .int u25.2.1])), (h0_1_0, .inl (c0_1_0, 600, .inl u25.2.2))]) hP hD [2, 3] [0, 1] rfl rfl (by decide) (by decide) hk1 hFc hP1 hD1
            generalize H1 = H at hP hS hce ⊢
            have hP : va_P (dC, dI) zC [(h0, .inr (6, [.ref h0_0, .ref h0_1, .int v0_address, .int v0_file, .int v0_line, .int v0_column, .int v0_statement])), (h0_0, .inr (1, [.int v0_0_base, .int v0_0_range, .int v0_0_low, .int v0_0_start, .int v0_0_step])), (h0_1, .inr (0, [.ref h0_1_0, .int u25.2.1])), (h0_1_0, .inl (c0_1_0, 600, .inl u25.2.2))] H := hP
            have hD : va_D A [(h0, .inr (6, [.ref h0_0, .ref h0_1, .int v0_address, .int v0_file, .int v0_line, .int v0_column, .int v0_statement])), (h0_0, .inr (1, [.int v0_0_base, .int v0_0_range, .int v0_0_low, .int v0_0_start, .int v0_0_step])), (h0_1, .inr (0, [.ref h0_1_0, .int u25.2.1])), (h0_1_0, .inl (c0_1_0, 600, .inl u25.2.2))] := hD
            have hP9 := hP.sub (ws' := [(h0, .inr (6, [.ref h0_0, .ref h0_1, .int v0_address, .int v0_file, .int v0_line, .int v0_column, .int v0_statement])), (h0_0, .inr (1, [.int v0_0_base, .int v0_0_range, .int v0_0_low, .int v0_0_start, .int v0_0_step])), (h0_1, .inr (0, [.ref h0_1_0, .int u25.2.1])), (h0_1_0, .inl (c0_1_0, 600, .inl u25.2.2))]) [0, 1, 2, 3] rfl
            have hD9 := hD.sub (ws' := [(h0, .inr (6, [.ref h0_0, .ref h0_1, .int v0_address, .int v0_file, .int v0_line, .int v0_column, .int v0_statement])), (h0_0, .inr (1, [.int v0_0_base, .int v0_0_range, .int v0_0_low, .int v0_0_start, .int v0_0_step])), (h0_1, .inr (0, [.ref h0_1_0, .int u25.2.1])), (h0_1_0, .inl (c0_1_0, 600, .inl u25.2.2))]) [0, 1, 2, 3] (by decide) rfl
            have hK9 := hK.sub (tys' := [(c0_1_0, .int)]) [0] rfl
            exact tw_out (E := E9) (fun x hx => (hEx x hx).elim) hlocks hce hcv hcl (fun t ht ha => ⟨(u25.1, (u25.2.1, u25.2.2)), hw, ⟨hE, by rw [ht]; exact hP9, va_K.moved ha hK9, hD9⟩, hS.F ht⟩) hS.2.2 (Nat.le_of_ble_eq_true rfl) (Nat.le_of_ble_eq_true rfl)
          · skip
            obtain ⟨hP1, hK1, hD1⟩ := hB
            rw [ht] at hP1
            have hK1 := va_K.moved hvm.symm hK1
            obtain ⟨hP, hD⟩ := va_join (wr := [(h0, .inr (6, [.ref h0_0, .ref h0_1, .int v0_address, .int v0_file, .int v0_line, .int v0_column, .int v0_statement])), (h0_0, .inr (1, [.int v0_0_base, .int v0_0_range, .int v0_0_low, .int v0_0_start, .int v0_0_step]))]) (w1 := [(h0_1, .inr (0, [.ref h0_1_0, .int u25.1])), (h0_1_0, .inl (c0_1_0, 600, .inl u25.2))]) hP hD [2, 3] [0, 1] rfl rfl (by decide) (by decide) hk1 hFc hP1 hD1
            generalize H1 = H at hP hS ⊢
            have hP : va_P (dC, dI) zC [(h0, .inr (6, [.ref h0_0, .ref h0_1, .int v0_address, .int v0_file, .int v0_line, .int v0_column, .int v0_statement])), (h0_0, .inr (1, [.int v0_0_base, .int v0_0_range, .int v0_0_low, .int v0_0_start, .int v0_0_step])), (h0_1, .inr (0, [.ref h0_1_0, .int u25.1])), (h0_1_0, .inl (c0_1_0, 600, .inl u25.2))] H := hP
            have hD : va_D A [(h0, .inr (6, [.ref h0_0, .ref h0_1, .int v0_address, .int v0_file, .int v0_line, .int v0_column, .int v0_statement])), (h0_0, .inr (1, [.int v0_0_base, .int v0_0_range, .int v0_0_low, .int v0_0_start, .int v0_0_step])), (h0_1, .inr (0, [.ref h0_1_0, .int u25.1])), (h0_1_0, .inl (c0_1_0, 600, .inl u25.2))] := hD
            refine W.widen (k := 0) (n := 0) (Nat.le_of_ble_eq_true rfl) (Nat.le_of_ble_eq_true rfl) ?_
            have hP9 := hP.sub (ws' := [(h0, .inr (6, [.ref h0_0, .ref h0_1, .int v0_address, .int v0_file, .int v0_line, .int v0_column, .int v0_statement])), (h0_0, .inr (1, [.int v0_0_base, .int v0_0_range, .int v0_0_low, .int v0_0_start, .int v0_0_step])), (h0_1, .inr (0, [.ref h0_1_0, .int u25.1])), (h0_1_0, .inl (c0_1_0, 600, .inl u25.2))]) [0, 1, 2, 3] rfl
            have hD9 := hD.sub (ws' := [(h0, .inr (6, [.ref h0_0, .ref h0_1, .int v0_address, .int v0_file, .int v0_line, .int v0_column, .int v0_statement])), (h0_0, .inr (1, [.int v0_0_base, .int v0_0_range, .int v0_0_low, .int v0_0_start, .int v0_0_step])), (h0_1, .inr (0, [.ref h0_1_0, .int u25.1])), (h0_1_0, .inl (c0_1_0, 600, .inl u25.2))]) [0, 1, 2, 3] (by decide) rfl
            have hK9 := hK.sub (tys' := [(c0_1_0, .int)]) [0] rfl
            refine W.widen (k := 0) (n := 0) (Nat.le_of_ble_eq_true rfl) (Nat.le_of_ble_eq_true rfl) ?_
            refine tw_ret ?_
            exact W.vret hx hb hr (fun t ht hW => ⟨⟨(u25.1, u25.2), rfl, hw, by rw [ht]; exact hP9, va_K.moved hW.alike hK9, hD9⟩, hS.F ht⟩) hS.2.2 zd_Wr_writeUnsigned_49
        · have hw := hw.2 h24
          refine lv_aload_n hx hb zd_Wr_writeUnsigned_15 rfl (lv_at hl 2 rfl) ?_
          refine va_get (D := (dC, dI)) (ci := 6) (v := .ref h0_1) (C := zr_6) (T := zt_6) (N := 7) hx hb htb zi_6 hown hK hP 0 rfl rfl 1 (by decide) (htb _ zw_535) (fun _ h9 => h9) rfl zd_Wr_writeUnsigned_16 ?_
          refine lv_iload_n hx hb zd_Wr_writeUnsigned_19 rfl (lv_at hl 1 rfl) ?_
          refine lv_bipush (v := 127) hx hb zd_Wr_writeUnsigned_20 (by decide) ?_
          refine lv_iand hx hb zd_Wr_writeUnsigned_22 ?_
          refine lv_topi (fun x28 ex28 => ?_)
          have hw := hw x28 ex28
          refine lv_sipush (v := 128) hx hb zd_Wr_writeUnsigned_23 (by decide) ?_
          refine lv_ior hx hb zd_Wr_writeUnsigned_26 ?_
          refine lv_topi (fun x29 ex29 => ?_)
          have hw := hw x29 ex29
          have hPc := hP.sub (ws' := [(h0_1, .inr (0, [.ref h0_1_0, .int v17])), (h0_1_0, .inl (c0_1_0, 600, .inl v16))]) [2, 3] rfl
          have hDc := hD.sub (ws' := [(h0_1, .inr (0, [.ref h0_1_0, .int v17])), (h0_1_0, .inl (c0_1_0, 600, .inl v16))]) [2, 3] (by decide) rfl
          have hKc := hK.sub (tys' := [(c0_1_0, .int)]) [0] rfl
          have hFc := va_free (wc := [(h0_1, .inr (0, [.ref h0_1_0, .int v17])), (h0_1_0, .inl (c0_1_0, 600, .inl v16))]) hD hS hA [2, 3] rfl
          refine tw_callv (tw_runV (As := [.int x29]) (rest := []) ⟨hx, hb, hml, hown, htb⟩ (mt_By_append l hl9 dC dI sa h0_1 h0_1_0 H.size c0_1_0 v17 v16 x29 _ _ hw) (cwV 1 htb (zgV zw_565 zw_164 zw_165 zw_3 zw_166) rfl rfl rfl (by decide +kernel) ⟨(Nat.le_of_ble_eq_true rfl), (Nat.le_of_ble_eq_true rfl)⟩) ⟨zPx_blind, va_recv (ci := 0) (q0 := 2) hK hP rfl rfl, zPx_pre hZ hS hFc hPc hKc hDc⟩ rfl rfl hl.1 rfl (lv_room (Nat.le_of_ble_eq_true rfl)) zd_Wr_writeUnsigned_27 ⟨(Nat.le_of_ble_eq_true rfl), (Nat.le_of_ble_eq_true rfl)⟩) hS (fun q _ h => hFc q h) hFc (fun q _ h => hFc q h) (fun E9 ce9 q9 u30 t H1 locs ht hvm hw hB hz1 hk1 hS hce hcv hcl => ?_) (fun u30 t H1 locs ht hvm hw hB hz1 hk1 hS => ?_)
          · obtain ⟨hE, hB⟩ := hB
            obtain ⟨hP1, hK1, hD1⟩ := hB
            rw [ht] at hP1
            have hK1 := va_K.moved hvm.symm hK1
            obtain ⟨hP, hD⟩ := va_join (wr := [(h0, .inr (6, [.ref h0_0, .ref h0_1, .int v0_address, .int v0_file, .int v0_line, .int v0_column, .int v0_statement])), (h0_0, .inr (1, [.int v0_0_base, .int v0_0_range, .int v0_0_low, .int v0_0_start, .int v0_0_step]))]) (w1 := [(h0_1, .inr (0, [.ref h0_1_0, .int u30.2.1])), (h0_1_0, .inl (c0_1_0, 600, .inl u30.2.2))]) hP hD [2, 3] [0, 1] rfl rfl (by decide) (by decide) hk1 hFc hP1 hD1
            generalize H1 = H at hP hS hce ⊢
            have hP : va_P (dC, dI) zC [(h0, .inr (6, [.ref h0_0, .ref h0_1, .int v0_address, .int v0_file, .int v0_line, .int v0_column, .int v0_statement])), (h0_0, .inr (1, [.int v0_0_base, .int v0_0_range, .int v0_0_low, .int v0_0_start, .int v0_0_step])), (h0_1, .inr (0, [.ref h0_1_0, .int u30.2.1])), (h0_1_0, .inl (c0_1_0, 600, .inl u30.2.2))] H := hP
            have hD : va_D A [(h0, .inr (6, [.ref h0_0, .ref h0_1, .int v0_address, .int v0_file, .int v0_line, .int v0_column, .int v0_statement])), (h0_0, .inr (1, [.int v0_0_base, .int v0_0_range, .int v0_0_low, .int v0_0_start, .int v0_0_step])), (h0_1, .inr (0, [.ref h0_1_0, .int u30.2.1])), (h0_1_0, .inl (c0_1_0, 600, .inl u30.2.2))] := hD
            have hP9 := hP.sub (ws' := [(h0, .inr (6, [.ref h0_0, .ref h0_1, .int v0_address, .int v0_file, .int v0_line, .int v0_column, .int v0_statement])), (h0_0, .inr (1, [.int v0_0_base, .int v0_0_range, .int v0_0_low, .int v0_0_start, .int v0_0_step])), (h0_1, .inr (0, [.ref h0_1_0, .int u30.2.1])), (h0_1_0, .inl (c0_1_0, 600, .inl u30.2.2))]) [0, 1, 2, 3] rfl
            have hD9 := hD.sub (ws' := [(h0, .inr (6, [.ref h0_0, .ref h0_1, .int v0_address, .int v0_file, .int v0_line, .int v0_column, .int v0_statement])), (h0_0, .inr (1, [.int v0_0_base, .int v0_0_range, .int v0_0_low, .int v0_0_start, .int v0_0_step])), (h0_1, .inr (0, [.ref h0_1_0, .int u30.2.1])), (h0_1_0, .inl (c0_1_0, 600, .inl u30.2.2))]) [0, 1, 2, 3] (by decide) rfl
            have hK9 := hK.sub (tys' := [(c0_1_0, .int)]) [0] rfl
            exact tw_out (E := E9) (fun x hx => (hEx x hx).elim) hlocks hce hcv hcl (fun t ht ha => ⟨(u30.1, (u30.2.1, u30.2.2)), hw, ⟨hE, by rw [ht]; exact hP9, va_K.moved ha hK9, hD9⟩, hS.F ht⟩) hS.2.2 (Nat.le_of_ble_eq_true rfl) (Nat.le_of_ble_eq_true rfl)
          · skip
            obtain ⟨hP1, hK1, hD1⟩ := hB
            rw [ht] at hP1
            have hK1 := va_K.moved hvm.symm hK1
            obtain ⟨hP, hD⟩ := va_join (wr := [(h0, .inr (6, [.ref h0_0, .ref h0_1, .int v0_address, .int v0_file, .int v0_line, .int v0_column, .int v0_statement])), (h0_0, .inr (1, [.int v0_0_base, .int v0_0_range, .int v0_0_low, .int v0_0_start, .int v0_0_step]))]) (w1 := [(h0_1, .inr (0, [.ref h0_1_0, .int u30.1])), (h0_1_0, .inl (c0_1_0, 600, .inl u30.2))]) hP hD [2, 3] [0, 1] rfl rfl (by decide) (by decide) hk1 hFc hP1 hD1
            generalize H1 = H at hP hS ⊢
            have hP : va_P (dC, dI) zC [(h0, .inr (6, [.ref h0_0, .ref h0_1, .int v0_address, .int v0_file, .int v0_line, .int v0_column, .int v0_statement])), (h0_0, .inr (1, [.int v0_0_base, .int v0_0_range, .int v0_0_low, .int v0_0_start, .int v0_0_step])), (h0_1, .inr (0, [.ref h0_1_0, .int u30.1])), (h0_1_0, .inl (c0_1_0, 600, .inl u30.2))] H := hP
            have hD : va_D A [(h0, .inr (6, [.ref h0_0, .ref h0_1, .int v0_address, .int v0_file, .int v0_line, .int v0_column, .int v0_statement])), (h0_0, .inr (1, [.int v0_0_base, .int v0_0_range, .int v0_0_low, .int v0_0_start, .int v0_0_step])), (h0_1, .inr (0, [.ref h0_1_0, .int u30.1])), (h0_1_0, .inl (c0_1_0, 600, .inl u30.2))] := hD
            refine W.widen (k := 0) (n := 0) (Nat.le_of_ble_eq_true rfl) (Nat.le_of_ble_eq_true rfl) ?_
            refine lv_iload_n hx hb zd_Wr_writeUnsigned_30 rfl (lv_at hl 1 rfl) ?_
            refine lv_bipush (v := 7) hx hb zd_Wr_writeUnsigned_31 (by decide) ?_
            refine lv_ishr hx hb zd_Wr_writeUnsigned_33 ?_
            refine lv_topi (fun x33 ex33 => ?_)
            have hw := hw x33 ex33
            refine lv_istore_n (i := 2) (lv' := [(2, .int x33), (3, .int v19), (0, .ref h0), (1, .int p0)]) hx hb zd_Wr_writeUnsigned_34 rfl hl (by decide) rfl (fun ls hl => ?_)
            obtain ⟨x34, ex34⟩ : ∃ z : Int32, z = v19 + Int32.ofInt 1 := ⟨_, rfl⟩
            have hw := hw x34 ex34
            refine lv_iinc (k := 1) (v := x34) (lv' := [(3, .int x34), (2, .int x33), (0, .ref h0), (1, .int p0)]) hx hb zd_Wr_writeUnsigned_35 hl rfl ex34.symm (by decide) rfl (fun ls hl => ?_)
            refine lv_goto (tgt := 4) hx hb zd_Wr_writeUnsigned_38 (by decide) ?_
            exact ih u30.2 u30.1 x33 x34 ls H _ (lv_sub hl [0, 1, 2, 3] rfl) (hP.sub (ws' := [(h0, .inr (6, [.ref h0_0, .ref h0_1, .int v0_address, .int v0_file, .int v0_line, .int v0_column, .int v0_statement])), (h0_0, .inr (1, [.int v0_0_base, .int v0_0_range, .int v0_0_low, .int v0_0_start, .int v0_0_step])), (h0_1, .inr (0, [.ref h0_1_0, .int u30.1])), (h0_1_0, .inl (c0_1_0, 600, .inl u30.2))]) [0, 1, 2, 3] rfl) (hD.sub (ws' := [(h0, .inr (6, [.ref h0_0, .ref h0_1, .int v0_address, .int v0_file, .int v0_line, .int v0_column, .int v0_statement])), (h0_0, .inr (1, [.int v0_0_base, .int v0_0_range, .int v0_0_low, .int v0_0_start, .int v0_0_step])), (h0_1, .inr (0, [.ref h0_1_0, .int u30.1])), (h0_1_0, .inl (c0_1_0, 600, .inl u30.2))]) [0, 1, 2, 3] (by decide) rfl) hS hw
  obtain ⟨k, hw⟩ := hw
  exact lp4 k g0_1_values v0_1_size p0 0 ls H _ hl hP hD hS hw
abbrev zo_Wr_writeSigned : Room := { frames := 7, cells := 1, slots := 6, locals := 111 }
abbrev zb_Wr_writeSigned (dC : Nat → ClassId) (dI : Nat → Nat → Nat) (A : Nat → Prop) (h0 h0_0 h0_1 h0_1_0 : Nat) (c0_1_0 : ClassId) (v0_address : Int32) (v0_file : Int32) (v0_line : Int32) (v0_column : Int32) (v0_statement : Int32) (v0_0_base : Int32) (v0_0_range : Int32) (v0_0_low : Int32) (v0_0_start : Int32) (v0_0_step : Int32) (u : Int32 × (Nat → Int32)) (t : State) : Prop := va_P (dC, dI) zC [(h0, .inr (6, [.ref h0_0, .ref h0_1, .int v0_address, .int v0_file, .int v0_line, .int v0_column, .int v0_statement])), (h0_0, .inr (1, [.int v0_0_base, .int v0_0_range, .int v0_0_low, .int v0_0_start, .int v0_0_step])), (h0_1, .inr (0, [.ref h0_1_0, .int u.1])), (h0_1_0, .inl (c0_1_0, 600, .inl u.2))] t.heap ∧ va_K (dC, dI) zC [(c0_1_0, .int)] t ∧ va_D A [(h0, .inr (6, [.ref h0_0, .ref h0_1, .int v0_address, .int v0_file, .int v0_line, .int v0_column, .int v0_statement])), (h0_0, .inr (1, [.int v0_0_base, .int v0_0_range, .int v0_0_low, .int v0_0_start, .int v0_0_step])), (h0_1, .inr (0, [.ref h0_1_0, .int u.1])), (h0_1_0, .inl (c0_1_0, 600, .inl u.2))]
abbrev zx_Wr_writeSigned (dC : Nat → ClassId) (dI : Nat → Nat → Nat) (A : Nat → Prop) (h0 h0_0 h0_1 h0_1_0 : Nat) (c0_1_0 : ClassId) (v0_address : Int32) (v0_file : Int32) (v0_line : Int32) (v0_column : Int32) (v0_statement : Int32) (v0_0_base : Int32) (v0_0_range : Int32) (v0_0_low : Int32) (v0_0_start : Int32) (v0_0_step : Int32) (E : String) (u : Nat × (Int32 × (Nat → Int32))) (t : State) : Prop := E = zE u.1 ∧ zb_Wr_writeSigned dC dI A h0 h0_0 h0_1 h0_1_0 c0_1_0 v0_address v0_file v0_line v0_column v0_statement v0_0_base v0_0_range v0_0_low v0_0_start v0_0_step u.2 t
set_option maxHeartbeats 4000000 in
set_option maxRecDepth 100000 in
theorem mt_Wr_writeSigned (l : Launch) (hl9 : l.stackTraces = false) (dC : Nat → ClassId) (dI : Nat → Nat → Nat) (sa : Nat → Nat) (h0 h0_0 h0_1 h0_1_0 sz : Nat) (c0_1_0 : ClassId) (v0_address : Int32) (v0_file : Int32) (v0_line : Int32) (v0_column : Int32) (v0_statement : Int32) (v0_0_base : Int32) (v0_0_range : Int32) (v0_0_low : Int32) (v0_0_start : Int32) (v0_0_step : Int32) (v0_1_size : Int32) (g0_1_values : Nat → Int32) (p0 : Int32) (post : (Int32 × (Nat → Int32)) → Prop) (postX : Nat × (Int32 × (Nat → Int32)) → Prop) (hw : wp_Wr_writeSigned v0_1_size g0_1_values p0 post postX) : tw_Met l zy_Wr_writeSigned zs_Wr_writeSigned zo_Wr_writeSigned (zPx dC dI sa [.ref h0, .int p0] sz [(h0, .inr (6, [.ref h0_0, .ref h0_1, .int v0_address, .int v0_file, .int v0_line, .int v0_column, .int v0_statement])), (h0_0, .inr (1, [.int v0_0_base, .int v0_0_range, .int v0_0_low, .int v0_0_start, .int v0_0_step])), (h0_1, .inr (0, [.ref h0_1_0, .int v0_1_size])), (h0_1_0, .inl (c0_1_0, 600, .inl g0_1_values))] [(c0_1_0, .int)]) (va_Qv (fun (u : Int32 × (Nat → Int32)) => post u) (zb_Wr_writeSigned dC dI (va_A [(h0, .inr (6, [.ref h0_0, .ref h0_1, .int v0_address, .int v0_file, .int v0_line, .int v0_column, .int v0_statement])), (h0_0, .inr (1, [.int v0_0_base, .int v0_0_range, .int v0_0_low, .int v0_0_start, .int v0_0_step])), (h0_1, .inr (0, [.ref h0_1_0, .int v0_1_size])), (h0_1_0, .inl (c0_1_0, 600, .inl g0_1_values))] sz) h0 h0_0 h0_1 h0_1_0 c0_1_0 v0_address v0_file v0_line v0_column v0_statement v0_0_base v0_0_range v0_0_low v0_0_start v0_0_step) (va_A [(h0, .inr (6, [.ref h0_0, .ref h0_1, .int v0_address, .int v0_file, .int v0_line, .int v0_column, .int v0_statement])), (h0_0, .inr (1, [.int v0_0_base, .int v0_0_range, .int v0_0_low, .int v0_0_start, .int v0_0_step])), (h0_1, .inr (0, [.ref h0_1_0, .int v0_1_size])), (h0_1_0, .inl (c0_1_0, 600, .inl g0_1_values))] sz)) (vx_X (fun (u : Nat × (Int32 × (Nat → Int32))) => postX u) (zx_Wr_writeSigned dC dI (va_A [(h0, .inr (6, [.ref h0_0, .ref h0_1, .int v0_address, .int v0_file, .int v0_line, .int v0_column, .int v0_statement])), (h0_0, .inr (1, [.int v0_0_base, .int v0_0_range, .int v0_0_low, .int v0_0_start, .int v0_0_step])), (h0_1, .inr (0, [.ref h0_1_0, .int v0_1_size])), (h0_1_0, .inl (c0_1_0, 600, .inl g0_1_values))] sz) h0 h0_0 h0_1 h0_1_0 c0_1_0 v0_address v0_file v0_line v0_column v0_statement v0_0_base v0_0_range v0_0_low v0_0_start v0_0_step) (va_A [(h0, .inr (6, [.ref h0_0, .ref h0_1, .int v0_address, .int v0_file, .int v0_line, .int v0_column, .int v0_statement])), (h0_0, .inr (1, [.int v0_0_base, .int v0_0_range, .int v0_0_low, .int v0_0_start, .int v0_0_step])), (h0_1, .inr (0, [.ref h0_1_0, .int v0_1_size])), (h0_1_0, .inl (c0_1_0, 600, .inl g0_1_values))] sz)) 0 0 1 6 (va_A [(h0, .inr (6, [.ref h0_0, .ref h0_1, .int v0_address, .int v0_file, .int v0_line, .int v0_column, .int v0_statement])), (h0_0, .inr (1, [.int v0_0_base, .int v0_0_range, .int v0_0_low, .int v0_0_start, .int v0_0_step])), (h0_1, .inr (0, [.ref h0_1_0, .int v0_1_size])), (h0_1_0, .inl (c0_1_0, 600, .inl g0_1_values))] sz) := by
  unfold wp_Wr_writeSigned at hw
  refine tw_ofW (cc := zc_Wr_writeSigned) (maxL := 4) (ret := none) (by decide) rfl ?_
  intro p e s m args below meth c s₁ B hml hEx hv
  obtain ⟨rfl, hsz, hP, hK, hD0, hZ⟩ := hv
  have hx := B.exec
  have hb := B.bytes
  have hr := B.returns
  have hts := atoms_spec (ws := zs_Wr_writeSigned) B.pre
  have htb := fun w (h : w ∈ zB) => hts w (List.mem_cons_of_mem _ h)
  have hown : s.vm.findClass zr_6 = some m.cls := findClass_of_methodNamed B.named
  have hlocks := B.notSynchronized
  subst hsz
  have hD := hD0.self (sz := s.heap.size)
  generalize hAe : va_A [(h0, .inr (6, [.ref h0_0, .ref h0_1, .int v0_address, .int v0_file, .int v0_line, .int v0_column, .int v0_statement])), (h0_0, .inr (1, [.int v0_0_base, .int v0_0_range, .int v0_0_low, .int v0_0_start, .int v0_0_step])), (h0_1, .inr (0, [.ref h0_1_0, .int v0_1_size])), (h0_1_0, .inl (c0_1_0, 600, .inl g0_1_values))] s.heap.size = A at hD hZ ⊢
  have hA : ∀ q : Nat, s.heap.size ≤ q → A q := fun q h => by rw [← hAe]; exact Or.inr h
  clear hAe hD0
  have hl := lv_entry ([.ref h0, .int p0]) (n := 4) (Nat.le_of_ble_eq_true rfl)
  rw [lg_entry_eq]
  generalize (lg_sl ([.ref h0, .int p0]) ++ List.replicate (4 - (lg_sl ([.ref h0, .int p0])).length) Slot.unset).toArray = ls at hl ⊢
  have hl : lv_has ls 4 [(0, .ref h0), (1, .int p0)] := hl
  obtain ⟨H, hH⟩ : ∃ H, H = s.heap := ⟨_, rfl⟩
  have hS : va_S A s.heap H [] := by rw [hH]; exact va_S.rf
  rw [← hH] at hP ⊢
  refine lv_iload_n hx hb zd_Wr_writeSigned_0 rfl (lv_at hl 1 rfl) ?_
  refine lv_istore_n (i := 2) (lv' := [(2, .int p0), (0, .ref h0), (1, .int p0)]) hx hb zd_Wr_writeSigned_1 rfl hl (by decide) rfl (fun ls hl => ?_)
  refine lv_iconst (v := 0) hx hb zd_Wr_writeSigned_2 (by decide) ?_
  refine lv_istore_n (i := 3) (lv' := [(3, .int 0), (2, .int p0), (0, .ref h0), (1, .int p0)]) hx hb zd_Wr_writeSigned_3 rfl hl (by decide) rfl (fun ls hl => ?_)
  have lp4 : ∀ (k : Nat) (v26 : Nat → Int32) (v27 : Int32) (v28 : Int32) (v29 : Int32) (ls : Array Slot) (H : Heap) (locs : List Loc), lv_has ls 4 [(3, .int v29), (2, .int v28), (0, .ref h0), (1, .int p0)] → va_P (dC, dI) zC [(h0, .inr (6, [.ref h0_0, .ref h0_1, .int v0_address, .int v0_file, .int v0_line, .int v0_column, .int v0_statement])), (h0_0, .inr (1, [.int v0_0_base, .int v0_0_range, .int v0_0_low, .int v0_0_start, .int v0_0_step])), (h0_1, .inr (0, [.ref h0_1_0, .int v27])), (h0_1_0, .inl (c0_1_0, 600, .inl v26))] H → va_D A [(h0, .inr (6, [.ref h0_0, .ref h0_1, .int v0_address, .int v0_file, .int v0_line, .int v0_column, .int v0_statement])), (h0_0, .inr (1, [.int v0_0_base, .int v0_0_range, .int v0_0_low, .int v0_0_start, .int v0_0_step])), (h0_1, .inr (0, [.ref h0_1_0, .int v27])), (h0_1_0, .inl (c0_1_0, 600, .inl v26))] → va_S A s.heap H locs → wl_Wr_writeSigned_4 post postX k v26 v27 v28 v29 → W p l e (headSpec zs_Wr_writeSigned zo_Wr_writeSigned).room s m [.ref h0, .int p0].toArray below meth c H locs 0 0 (tw_MQ below (va_Qv (fun (u : Int32 × (Nat → Int32)) => post u) (zb_Wr_writeSigned dC dI A h0 h0_0 h0_1 h0_1_0 c0_1_0 v0_address v0_file v0_line v0_column v0_statement v0_0_base v0_0_range v0_0_low v0_0_start v0_0_step) A) (vx_X (fun (u : Nat × (Int32 × (Nat → Int32))) => postX u) (zx_Wr_writeSigned dC dI A h0 h0_0 h0_1 h0_1_0 c0_1_0 v0_address v0_file v0_line v0_column v0_statement v0_0_base v0_0_range v0_0_low v0_0_start v0_0_step) A) [.ref h0, .int p0].toArray s 0 0 1 6 A) (F0 m 4 ls []) := by
    intro k
    induction k with
    | zero => intro v26 v27 v28 v29 ls H locs hl hP hD hS hw; exact False.elim hw
    | succ k ih =>
      intro v26 v27 v28 v29 ls H locs hl hP hD hS hw
      refine lv_iload_n hx hb zd_Wr_writeSigned_4 rfl (lv_at hl 0 rfl) ?_
      refine lv_iconst (v := 5) hx hb zd_Wr_writeSigned_5 (by decide) ?_
      refine lv_icmp_ge (tgt := 47) hx hb zd_Wr_writeSigned_6 (by decide) (fun h30 => ?_) (fun h30 => ?_)
      · have hw := hw.1 h30
        refine lv_aload_n hx hb zd_Wr_writeSigned_47 rfl (lv_at hl 2 rfl) ?_
        refine va_get (D := (dC, dI)) (ci := 6) (v := .ref h0_1) (C := zr_6) (T := zt_6) (N := 7) hx hb htb zi_6 hown hK hP 0 rfl rfl 1 (by decide) (htb _ zw_535) (fun _ h9 => h9) rfl zd_Wr_writeSigned_48 ?_
        refine lv_iload_n hx hb zd_Wr_writeSigned_51 rfl (lv_at hl 1 rfl) ?_
        refine lv_bipush (v := 127) hx hb zd_Wr_writeSigned_52 (by decide) ?_
        refine lv_iand hx hb zd_Wr_writeSigned_54 ?_
        refine lv_topi (fun x31 ex31 => ?_)
        have hw := hw x31 ex31
        have hPc := hP.sub (ws' := [(h0_1, .inr (0, [.ref h0_1_0, .int v27])), (h0_1_0, .inl (c0_1_0, 600, .inl v26))]) [2, 3] rfl
        have hDc := hD.sub (ws' := [(h0_1, .inr (0, [.ref h0_1_0, .int v27])), (h0_1_0, .inl (c0_1_0, 600, .inl v26))]) [2, 3] (by decide) rfl
        have hKc := hK.sub (tys' := [(c0_1_0, .int)]) [0] rfl
        have hFc := va_free (wc := [(h0_1, .inr (0, [.ref h0_1_0, .int v27])), (h0_1_0, .inl (c0_1_0, 600, .inl v26))]) hD hS hA [2, 3] rfl
        refine tw_callv (tw_runV (As := [.int x31]) (rest := []) ⟨hx, hb, hml, hown, htb⟩ (mt_By_append l hl9 dC dI sa h0_1 h0_1_0 H.size c0_1_0 v27 v26 x31 _ _ hw) (cwV 1 htb (zgV zw_565 zw_164 zw_165 zw_3 zw_166) rfl rfl rfl (by decide +kernel) ⟨(Nat.le_of_ble_eq_true rfl), (Nat.le_of_ble_eq_true rfl)⟩) ⟨zPx_blind, va_recv (ci := 0) (q0 := 2) hK hP rfl rfl, zPx_pre hZ hS hFc hPc hKc hDc⟩ rfl rfl hl.1 rfl (lv_room (Nat.le_of_ble_eq_true rfl)) zd_Wr_writeSigned_55 ⟨(Nat.le_of_ble_eq_true rfl), (Nat.le_of_ble_eq_true rfl)⟩) hS (fun q _ h => hFc q h) hFc (fun q _ h => hFc q h) (fun E9 ce9 q9 u32 t H1 locs ht hvm hw hB hz1 hk1 hS hce hcv hcl => ?_) (fun u32 t H1 locs ht hvm hw hB hz1 hk1 hS => ?_)
        · obtain ⟨hE, hB⟩ := hB
          obtain ⟨hP1, hK1, hD1⟩ := hB
          rw [ht] at hP1
          have hK1 := va_K.moved hvm.symm hK1
          obtain ⟨hP, hD⟩ := va_join (wr := [(h0, .inr (6, [.ref h0_0, .ref h0_1, .int v0_address, .int v0_file, .int v0_line, .int v0_column, .int v0_statement])), (h0_0, .inr (1, [.int v0_0_base, .int v0_0_range, .int v0_0_low, .int v0_0_start, .int v0_0_step]))]) (w1 := [(h0_1, .inr (0, [.ref h0_1_0, .int u32.2.1])), (h0_1_0, .inl (c0_1_0, 600, .inl u32.2.2))]) hP hD [2, 3] [0, 1] rfl rfl (by decide) (by decide) hk1 hFc hP1 hD1
          generalize H1 = H at hP hS hce ⊢
          have hP : va_P (dC, dI) zC [(h0, .inr (6, [.ref h0_0, .ref h0_1, .int v0_address, .int v0_file, .int v0_line, .int v0_column, .int v0_statement])), (h0_0, .inr (1, [.int v0_0_base, .int v0_0_range, .int v0_0_low, .int v0_0_start, .int v0_0_step])), (h0_1, .inr (0, [.ref h0_1_0, .int u32.2.1])), (h0_1_0, .inl (c0_1_0, 600, .inl u32.2.2))] H := hP
          have hD : va_D A [(h0, .inr (6, [.ref h0_0, .ref h0_1, .int v0_address, .int v0_file, .int v0_line, .int v0_column, .int v0_statement])), (h0_0, .inr (1, [.int v0_0_base, .int v0_0_range, .int v0_0_low, .int v0_0_start, .int v0_0_step])), (h0_1, .inr (0, [.ref h0_1_0, .int u32.2.1])), (h0_1_0, .inl (c0_1_0, 600, .inl u32.2.2))] := hD
          have hP9 := hP.sub (ws' := [(h0, .inr (6, [.ref h0_0, .ref h0_1, .int v0_address, .int v0_file, .int v0_line, .int v0_column, .int v0_statement])), (h0_0, .inr (1, [.int v0_0_base, .int v0_0_range, .int v0_0_low, .int v0_0_start, .int v0_0_step])), (h0_1, .inr (0, [.ref h0_1_0, .int u32.2.1])), (h0_1_0, .inl (c0_1_0, 600, .inl u32.2.2))]) [0, 1, 2, 3] rfl
          have hD9 := hD.sub (ws' := [(h0, .inr (6, [.ref h0_0, .ref h0_1, .int v0_address, .int v0_file, .int v0_line, .int v0_column, .int v0_statement])), (h0_0, .inr (1, [.int v0_0_base, .int v0_0_range, .int v0_0_low, .int v0_0_start, .int v0_0_step])), (h0_1, .inr (0, [.ref h0_1_0, .int u32.2.1])), (h0_1_0, .inl (c0_1_0, 600, .inl u32.2.2))]) [0, 1, 2, 3] (by decide) rfl
          have hK9 := hK.sub (tys' := [(c0_1_0, .int)]) [0] rfl
          exact tw_out (E := E9) (fun x hx => (hEx x hx).elim) hlocks hce hcv hcl (fun t ht ha => ⟨(u32.1, (u32.2.1, u32.2.2)), hw, ⟨hE, by rw [ht]; exact hP9, va_K.moved ha hK9, hD9⟩, hS.F ht⟩) hS.2.2 (Nat.le_of_ble_eq_true rfl) (Nat.le_of_ble_eq_true rfl)
        · skip
          obtain ⟨hP1, hK1, hD1⟩ := hB
          rw [ht] at hP1
          have hK1 := va_K.moved hvm.symm hK1
          obtain ⟨hP, hD⟩ := va_join (wr := [(h0, .inr (6, [.ref h0_0, .ref h0_1, .int v0_address, .int v0_file, .int v0_line, .int v0_column, .int v0_statement])), (h0_0, .inr (1, [.int v0_0_base, .int v0_0_range, .int v0_0_low, .int v0_0_start, .int v0_0_step]))]) (w1 := [(h0_1, .inr (0, [.ref h0_1_0, .int u32.1])), (h0_1_0, .inl (c0_1_0, 600, .inl u32.2))]) hP hD [2, 3] [0, 1] rfl rfl (by decide) (by decide) hk1 hFc hP1 hD1
          generalize H1 = H at hP hS ⊢
          have hP : va_P (dC, dI) zC [(h0, .inr (6, [.ref h0_0, .ref h0_1, .int v0_address, .int v0_file, .int v0_line, .int v0_column, .int v0_statement])), (h0_0, .inr (1, [.int v0_0_base, .int v0_0_range, .int v0_0_low, .int v0_0_start, .int v0_0_step])), (h0_1, .inr (0, [.ref h0_1_0, .int u32.1])), (h0_1_0, .inl (c0_1_0, 600, .inl u32.2))] H := hP
          have hD : va_D A [(h0, .inr (6, [.ref h0_0, .ref h0_1, .int v0_address, .int v0_file, .int v0_line, .int v0_column, .int v0_statement])), (h0_0, .inr (1, [.int v0_0_base, .int v0_0_range, .int v0_0_low, .int v0_0_start, .int v0_0_step])), (h0_1, .inr (0, [.ref h0_1_0, .int u32.1])), (h0_1_0, .inl (c0_1_0, 600, .inl u32.2))] := hD
          refine W.widen (k := 0) (n := 0) (Nat.le_of_ble_eq_true rfl) (Nat.le_of_ble_eq_true rfl) ?_
          have hP9 := hP.sub (ws' := [(h0, .inr (6, [.ref h0_0, .ref h0_1, .int v0_address, .int v0_file, .int v0_line, .int v0_column, .int v0_statement])), (h0_0, .inr (1, [.int v0_0_base, .int v0_0_range, .int v0_0_low, .int v0_0_start, .int v0_0_step])), (h0_1, .inr (0, [.ref h0_1_0, .int u32.1])), (h0_1_0, .inl (c0_1_0, 600, .inl u32.2))]) [0, 1, 2, 3] rfl
          have hD9 := hD.sub (ws' := [(h0, .inr (6, [.ref h0_0, .ref h0_1, .int v0_address, .int v0_file, .int v0_line, .int v0_column, .int v0_statement])), (h0_0, .inr (1, [.int v0_0_base, .int v0_0_range, .int v0_0_low, .int v0_0_start, .int v0_0_step])), (h0_1, .inr (0, [.ref h0_1_0, .int u32.1])), (h0_1_0, .inl (c0_1_0, 600, .inl u32.2))]) [0, 1, 2, 3] (by decide) rfl
          have hK9 := hK.sub (tys' := [(c0_1_0, .int)]) [0] rfl
          refine W.widen (k := 0) (n := 0) (Nat.le_of_ble_eq_true rfl) (Nat.le_of_ble_eq_true rfl) ?_
          refine tw_ret ?_
          exact W.vret hx hb hr (fun t ht hW => ⟨⟨(u32.1, u32.2), rfl, hw, by rw [ht]; exact hP9, va_K.moved hW.alike hK9, hD9⟩, hS.F ht⟩) hS.2.2 zd_Wr_writeSigned_58
      · have hw := hw.2 h30
        refine lv_iload_n hx hb zd_Wr_writeSigned_9 rfl (lv_at hl 1 rfl) ?_
        refine lv_bipush (v := (-64)) hx hb zd_Wr_writeSigned_10 (by decide) ?_
        refine lv_icmp_lt (tgt := 21) hx hb zd_Wr_writeSigned_12 (by decide) (fun h35 => ?_) (fun h35 => ?_)
        · have hw := hw.1 h35
          refine lv_aload_n hx hb zd_Wr_writeSigned_21 rfl (lv_at hl 2 rfl) ?_
          refine va_get (D := (dC, dI)) (ci := 6) (v := .ref h0_1) (C := zr_6) (T := zt_6) (N := 7) hx hb htb zi_6 hown hK hP 0 rfl rfl 1 (by decide) (htb _ zw_535) (fun _ h9 => h9) rfl zd_Wr_writeSigned_22 ?_
          refine lv_iload_n hx hb zd_Wr_writeSigned_25 rfl (lv_at hl 1 rfl) ?_
          refine lv_bipush (v := 127) hx hb zd_Wr_writeSigned_26 (by decide) ?_
          refine lv_iand hx hb zd_Wr_writeSigned_28 ?_
          refine lv_topi (fun x36 ex36 => ?_)
          have hw := hw x36 ex36
          refine lv_sipush (v := 128) hx hb zd_Wr_writeSigned_29 (by decide) ?_
          refine lv_ior hx hb zd_Wr_writeSigned_32 ?_
          refine lv_topi (fun x37 ex37 => ?_)
          have hw := hw x37 ex37
          have hPc := hP.sub (ws' := [(h0_1, .inr (0, [.ref h0_1_0, .int v27])), (h0_1_0, .inl (c0_1_0, 600, .inl v26))]) [2, 3] rfl
          have hDc := hD.sub (ws' := [(h0_1, .inr (0, [.ref h0_1_0, .int v27])), (h0_1_0, .inl (c0_1_0, 600, .inl v26))]) [2, 3] (by decide) rfl
          have hKc := hK.sub (tys' := [(c0_1_0, .int)]) [0] rfl
          have hFc := va_free (wc := [(h0_1, .inr (0, [.ref h0_1_0, .int v27])), (h0_1_0, .inl (c0_1_0, 600, .inl v26))]) hD hS hA [2, 3] rfl
          refine tw_callv (tw_runV (As := [.int x37]) (rest := []) ⟨hx, hb, hml, hown, htb⟩ (mt_By_append l hl9 dC dI sa h0_1 h0_1_0 H.size c0_1_0 v27 v26 x37 _ _ hw) (cwV 1 htb (zgV zw_565 zw_164 zw_165 zw_3 zw_166) rfl rfl rfl (by decide +kernel) ⟨(Nat.le_of_ble_eq_true rfl), (Nat.le_of_ble_eq_true rfl)⟩) ⟨zPx_blind, va_recv (ci := 0) (q0 := 2) hK hP rfl rfl, zPx_pre hZ hS hFc hPc hKc hDc⟩ rfl rfl hl.1 rfl (lv_room (Nat.le_of_ble_eq_true rfl)) zd_Wr_writeSigned_33 ⟨(Nat.le_of_ble_eq_true rfl), (Nat.le_of_ble_eq_true rfl)⟩) hS (fun q _ h => hFc q h) hFc (fun q _ h => hFc q h) (fun E9 ce9 q9 u38 t H1 locs ht hvm hw hB hz1 hk1 hS hce hcv hcl => ?_) (fun u38 t H1 locs ht hvm hw hB hz1 hk1 hS => ?_)
          · obtain ⟨hE, hB⟩ := hB
            obtain ⟨hP1, hK1, hD1⟩ := hB
            rw [ht] at hP1
            have hK1 := va_K.moved hvm.symm hK1
            obtain ⟨hP, hD⟩ := va_join (wr := [(h0, .inr (6, [.ref h0_0, .ref h0_1, .int v0_address, .int v0_file, .int v0_line, .int v0_column, .int v0_statement])), (h0_0, .inr (1, [.int v0_0_base, .int v0_0_range, .int v0_0_low, .int v0_0_start, .int v0_0_step]))]) (w1 := [(h0_1, .inr (0, [.ref h0_1_0, .int u38.2.1])), (h0_1_0, .inl (c0_1_0, 600, .inl u38.2.2))]) hP hD [2, 3] [0, 1] rfl rfl (by decide) (by decide) hk1 hFc hP1 hD1
            generalize H1 = H at hP hS hce ⊢
            have hP : va_P (dC, dI) zC [(h0, .inr (6, [.ref h0_0, .ref h0_1, .int v0_address, .int v0_file, .int v0_line, .int v0_column, .int v0_statement])), (h0_0, .inr (1, [.int v0_0_base, .int v0_0_range, .int v0_0_low, .int v0_0_start, .int v0_0_step])), (h0_1, .inr (0, [.ref h0_1_0, .int u38.2.1])), (h0_1_0, .inl (c0_1_0, 600, .inl u38.2.2))] H := hP
            have hD : va_D A [(h0, .inr (6, [.ref h0_0, .ref h0_1, .int v0_address, .int v0_file, .int v0_line, .int v0_column, .int v0_statement])), (h0_0, .inr (1, [.int v0_0_base, .int v0_0_range, .int v0_0_low, .int v0_0_start, .int v0_0_step])), (h0_1, .inr (0, [.ref h0_1_0, .int u38.2.1])), (h0_1_0, .inl (c0_1_0, 600, .inl u38.2.2))] := hD
            have hP9 := hP.sub (ws' := [(h0, .inr (6, [.ref h0_0, .ref h0_1, .int v0_address, .int v0_file, .int v0_line, .int v0_column, .int v0_statement])), (h0_0, .inr (1, [.int v0_0_base, .int v0_0_range, .int v0_0_low, .int v0_0_start, .int v0_0_step])), (h0_1, .inr (0, [.ref h0_1_0, .int u38.2.1])), (h0_1_0, .inl (c0_1_0, 600, .inl u38.2.2))]) [0, 1, 2, 3] rfl
            have hD9 := hD.sub (ws' := [(h0, .inr (6, [.ref h0_0, .ref h0_1, .int v0_address, .int v0_file, .int v0_line, .int v0_column, .int v0_statement])), (h0_0, .inr (1, [.int v0_0_base, .int v0_0_range, .int v0_0_low, .int v0_0_start, .int v0_0_step])), (h0_1, .inr (0, [.ref h0_1_0, .int u38.2.1])), (h0_1_0, .inl (c0_1_0, 600, .inl u38.2.2))]) [0, 1, 2, 3] (by decide) rfl
            have hK9 := hK.sub (tys' := [(c0_1_0, .int)]) [0] rfl
            exact tw_out (E := E9) (fun x hx => (hEx x hx).elim) hlocks hce hcv hcl (fun t ht ha => ⟨(u38.1, (u38.2.1, u38.2.2)), hw, ⟨hE, by rw [ht]; exact hP9, va_K.moved ha hK9, hD9⟩, hS.F ht⟩) hS.2.2 (Nat.le_of_ble_eq_true rfl) (Nat.le_of_ble_eq_true rfl)
          · skip
            obtain ⟨hP1, hK1, hD1⟩ := hB
            rw [ht] at hP1
            have hK1 := va_K.moved hvm.symm hK1
            obtain ⟨hP, hD⟩ := va_join (wr := [(h0, .inr (6, [.ref h0_0, .ref h0_1, .int v0_address, .int v0_file, .int v0_line, .int v0_column, .int v0_statement])), (h0_0, .inr (1, [.int v0_0_base, .int v0_0_range, .int v0_0_low, .int v0_0_start, .int v0_0_step]))]) (w1 := [(h0_1, .inr (0, [.ref h0_1_0, .int u38.1])), (h0_1_0, .inl (c0_1_0, 600, .inl u38.2))]) hP hD [2, 3] [0, 1] rfl rfl (by decide) (by decide) hk1 hFc hP1 hD1
            generalize H1 = H at hP hS ⊢
            have hP : va_P (dC, dI) zC [(h0, .inr (6, [.ref h0_0, .ref h0_1, .int v0_address, .int v0_file, .int v0_line, .int v0_column, .int v0_statement])), (h0_0, .inr (1, [.int v0_0_base, .int v0_0_range, .int v0_0_low, .int v0_0_start, .int v0_0_step])), (h0_1, .inr (0, [.ref h0_1_0, .int u38.1])), (h0_1_0, .inl (c0_1_0, 600, .inl u38.2))] H := hP
            have hD : va_D A [(h0, .inr (6, [.ref h0_0, .ref h0_1, .int v0_address, .int v0_file, .int v0_line, .int v0_column, .int v0_statement])), (h0_0, .inr (1, [.int v0_0_base, .int v0_0_range, .int v0_0_low, .int v0_0_start, .int v0_0_step])), (h0_1, .inr (0, [.ref h0_1_0, .int u38.1])), (h0_1_0, .inl (c0_1_0, 600, .inl u38.2))] := hD
            refine W.widen (k := 0) (n := 0) (Nat.le_of_ble_eq_true rfl) (Nat.le_of_ble_eq_true rfl) ?_
            refine lv_iload_n hx hb zd_Wr_writeSigned_36 rfl (lv_at hl 1 rfl) ?_
            refine lv_bipush (v := 7) hx hb zd_Wr_writeSigned_37 (by decide) ?_
            refine lv_ishr hx hb zd_Wr_writeSigned_39 ?_
            refine lv_topi (fun x41 ex41 => ?_)
            have hw := hw x41 ex41
            refine lv_istore_n (i := 2) (lv' := [(2, .int x41), (3, .int v29), (0, .ref h0), (1, .int p0)]) hx hb zd_Wr_writeSigned_40 rfl hl (by decide) rfl (fun ls hl => ?_)
            obtain ⟨x42, ex42⟩ : ∃ z : Int32, z = v29 + Int32.ofInt 1 := ⟨_, rfl⟩
            have hw := hw x42 ex42
            refine lv_iinc (k := 1) (v := x42) (lv' := [(3, .int x42), (2, .int x41), (0, .ref h0), (1, .int p0)]) hx hb zd_Wr_writeSigned_41 hl rfl ex42.symm (by decide) rfl (fun ls hl => ?_)
            refine lv_goto (tgt := 4) hx hb zd_Wr_writeSigned_44 (by decide) ?_
            exact ih u38.2 u38.1 x41 x42 ls H _ (lv_sub hl [0, 1, 2, 3] rfl) (hP.sub (ws' := [(h0, .inr (6, [.ref h0_0, .ref h0_1, .int v0_address, .int v0_file, .int v0_line, .int v0_column, .int v0_statement])), (h0_0, .inr (1, [.int v0_0_base, .int v0_0_range, .int v0_0_low, .int v0_0_start, .int v0_0_step])), (h0_1, .inr (0, [.ref h0_1_0, .int u38.1])), (h0_1_0, .inl (c0_1_0, 600, .inl u38.2))]) [0, 1, 2, 3] rfl) (hD.sub (ws' := [(h0, .inr (6, [.ref h0_0, .ref h0_1, .int v0_address, .int v0_file, .int v0_line, .int v0_column, .int v0_statement])), (h0_0, .inr (1, [.int v0_0_base, .int v0_0_range, .int v0_0_low, .int v0_0_start, .int v0_0_step])), (h0_1, .inr (0, [.ref h0_1_0, .int u38.1])), (h0_1_0, .inl (c0_1_0, 600, .inl u38.2))]) [0, 1, 2, 3] (by decide) rfl) hS hw
        · have hw := hw.2 h35
          refine lv_iload_n hx hb zd_Wr_writeSigned_15 rfl (lv_at hl 1 rfl) ?_
          refine lv_bipush (v := 63) hx hb zd_Wr_writeSigned_16 (by decide) ?_
          refine lv_icmp_le (tgt := 47) hx hb zd_Wr_writeSigned_18 (by decide) (fun h43 => ?_) (fun h43 => ?_)
          · have hw := hw.1 h43
            refine lv_aload_n hx hb zd_Wr_writeSigned_47 rfl (lv_at hl 2 rfl) ?_
            refine va_get (D := (dC, dI)) (ci := 6) (v := .ref h0_1) (C := zr_6) (T := zt_6) (N := 7) hx hb htb zi_6 hown hK hP 0 rfl rfl 1 (by decide) (htb _ zw_535) (fun _ h9 => h9) rfl zd_Wr_writeSigned_48 ?_
            refine lv_iload_n hx hb zd_Wr_writeSigned_51 rfl (lv_at hl 1 rfl) ?_
            refine lv_bipush (v := 127) hx hb zd_Wr_writeSigned_52 (by decide) ?_
            refine lv_iand hx hb zd_Wr_writeSigned_54 ?_
            refine lv_topi (fun x44 ex44 => ?_)
            have hw := hw x44 ex44
            have hPc := hP.sub (ws' := [(h0_1, .inr (0, [.ref h0_1_0, .int v27])), (h0_1_0, .inl (c0_1_0, 600, .inl v26))]) [2, 3] rfl
            have hDc := hD.sub (ws' := [(h0_1, .inr (0, [.ref h0_1_0, .int v27])), (h0_1_0, .inl (c0_1_0, 600, .inl v26))]) [2, 3] (by decide) rfl
            have hKc := hK.sub (tys' := [(c0_1_0, .int)]) [0] rfl
            have hFc := va_free (wc := [(h0_1, .inr (0, [.ref h0_1_0, .int v27])), (h0_1_0, .inl (c0_1_0, 600, .inl v26))]) hD hS hA [2, 3] rfl
            refine tw_callv (tw_runV (As := [.int x44]) (rest := []) ⟨hx, hb, hml, hown, htb⟩ (mt_By_append l hl9 dC dI sa h0_1 h0_1_0 H.size c0_1_0 v27 v26 x44 _ _ hw) (cwV 1 htb (zgV zw_565 zw_164 zw_165 zw_3 zw_166) rfl rfl rfl (by decide +kernel) ⟨(Nat.le_of_ble_eq_true rfl), (Nat.le_of_ble_eq_true rfl)⟩) ⟨zPx_blind, va_recv (ci := 0) (q0 := 2) hK hP rfl rfl, zPx_pre hZ hS hFc hPc hKc hDc⟩ rfl rfl hl.1 rfl (lv_room (Nat.le_of_ble_eq_true rfl)) zd_Wr_writeSigned_55 ⟨(Nat.le_of_ble_eq_true rfl), (Nat.le_of_ble_eq_true rfl)⟩) hS (fun q _ h => hFc q h) hFc (fun q _ h => hFc q h) (fun E9 ce9 q9 u45 t H1 locs ht hvm hw hB hz1 hk1 hS hce hcv hcl => ?_) (fun u45 t H1 locs ht hvm hw hB hz1 hk1 hS => ?_)
            · obtain ⟨hE, hB⟩ := hB
              obtain ⟨hP1, hK1, hD1⟩ := hB
              rw [ht] at hP1
              have hK1 := va_K.moved hvm.symm hK1
              obtain ⟨hP, hD⟩ := va_join (wr := [(h0, .inr (6, [.ref h0_0, .ref h0_1, .int v0_address, .int v0_file, .int v0_line, .int v0_column, .int v0_statement])), (h0_0, .inr (1, [.int v0_0_base, .int v0_0_range, .int v0_0_low, .int v0_0_start, .int v0_0_step]))]) (w1 := [(h0_1, .inr (0, [.ref h0_1_0, .int u45.2.1])), (h0_1_0, .inl (c0_1_0, 600, .inl u45.2.2))]) hP hD [2, 3] [0, 1] rfl rfl (by decide) (by decide) hk1 hFc hP1 hD1
              generalize H1 = H at hP hS hce ⊢
              have hP : va_P (dC, dI) zC [(h0, .inr (6, [.ref h0_0, .ref h0_1, .int v0_address, .int v0_file, .int v0_line, .int v0_column, .int v0_statement])), (h0_0, .inr (1, [.int v0_0_base, .int v0_0_range, .int v0_0_low, .int v0_0_start, .int v0_0_step])), (h0_1, .inr (0, [.ref h0_1_0, .int u45.2.1])), (h0_1_0, .inl (c0_1_0, 600, .inl u45.2.2))] H := hP
              have hD : va_D A [(h0, .inr (6, [.ref h0_0, .ref h0_1, .int v0_address, .int v0_file, .int v0_line, .int v0_column, .int v0_statement])), (h0_0, .inr (1, [.int v0_0_base, .int v0_0_range, .int v0_0_low, .int v0_0_start, .int v0_0_step])), (h0_1, .inr (0, [.ref h0_1_0, .int u45.2.1])), (h0_1_0, .inl (c0_1_0, 600, .inl u45.2.2))] := hD
              have hP9 := hP.sub (ws' := [(h0, .inr (6, [.ref h0_0, .ref h0_1, .int v0_address, .int v0_file, .int v0_line, .int v0_column, .int v0_statement])), (h0_0, .inr (1, [.int v0_0_base, .int v0_0_range, .int v0_0_low, .int v0_0_start, .int v0_0_step])), (h0_1, .inr (0, [.ref h0_1_0, .int u45.2.1])), (h0_1_0, .inl (c0_1_0, 600, .inl u45.2.2))]) [0, 1, 2, 3] rfl
              have hD9 := hD.sub (ws' := [(h0, .inr (6, [.ref h0_0, .ref h0_1, .int v0_address, .int v0_file, .int v0_line, .int v0_column, .int v0_statement])), (h0_0, .inr (1, [.int v0_0_base, .int v0_0_range, .int v0_0_low, .int v0_0_start, .int v0_0_step])), (h0_1, .inr (0, [.ref h0_1_0, .int u45.2.1])), (h0_1_0, .inl (c0_1_0, 600, .inl u45.2.2))]) [0, 1, 2, 3] (by decide) rfl
              have hK9 := hK.sub (tys' := [(c0_1_0, .int)]) [0] rfl
              exact tw_out (E := E9) (fun x hx => (hEx x hx).elim) hlocks hce hcv hcl (fun t ht ha => ⟨(u45.1, (u45.2.1, u45.2.2)), hw, ⟨hE, by rw [ht]; exact hP9, va_K.moved ha hK9, hD9⟩, hS.F ht⟩) hS.2.2 (Nat.le_of_ble_eq_true rfl) (Nat.le_of_ble_eq_true rfl)
            · skip
              obtain ⟨hP1, hK1, hD1⟩ := hB
              rw [ht] at hP1
              have hK1 := va_K.moved hvm.symm hK1
              obtain ⟨hP, hD⟩ := va_join (wr := [(h0, .inr (6, [.ref h0_0, .ref h0_1, .int v0_address, .int v0_file, .int v0_line, .int v0_column, .int v0_statement])), (h0_0, .inr (1, [.int v0_0_base, .int v0_0_range, .int v0_0_low, .int v0_0_start, .int v0_0_step]))]) (w1 := [(h0_1, .inr (0, [.ref h0_1_0, .int u45.1])), (h0_1_0, .inl (c0_1_0, 600, .inl u45.2))]) hP hD [2, 3] [0, 1] rfl rfl (by decide) (by decide) hk1 hFc hP1 hD1
              generalize H1 = H at hP hS ⊢
              have hP : va_P (dC, dI) zC [(h0, .inr (6, [.ref h0_0, .ref h0_1, .int v0_address, .int v0_file, .int v0_line, .int v0_column, .int v0_statement])), (h0_0, .inr (1, [.int v0_0_base, .int v0_0_range, .int v0_0_low, .int v0_0_start, .int v0_0_step])), (h0_1, .inr (0, [.ref h0_1_0, .int u45.1])), (h0_1_0, .inl (c0_1_0, 600, .inl u45.2))] H := hP
              have hD : va_D A [(h0, .inr (6, [.ref h0_0, .ref h0_1, .int v0_address, .int v0_file, .int v0_line, .int v0_column, .int v0_statement])), (h0_0, .inr (1, [.int v0_0_base, .int v0_0_range, .int v0_0_low, .int v0_0_start, .int v0_0_step])), (h0_1, .inr (0, [.ref h0_1_0, .int u45.1])), (h0_1_0, .inl (c0_1_0, 600, .inl u45.2))] := hD
              refine W.widen (k := 0) (n := 0) (Nat.le_of_ble_eq_true rfl) (Nat.le_of_ble_eq_true rfl) ?_
              have hP9 := hP.sub (ws' := [(h0, .inr (6, [.ref h0_0, .ref h0_1, .int v0_address, .int v0_file, .int v0_line, .int v0_column, .int v0_statement])), (h0_0, .inr (1, [.int v0_0_base, .int v0_0_range, .int v0_0_low, .int v0_0_start, .int v0_0_step])), (h0_1, .inr (0, [.ref h0_1_0, .int u45.1])), (h0_1_0, .inl (c0_1_0, 600, .inl u45.2))]) [0, 1, 2, 3] rfl
              have hD9 := hD.sub (ws' := [(h0, .inr (6, [.ref h0_0, .ref h0_1, .int v0_address, .int v0_file, .int v0_line, .int v0_column, .int v0_statement])), (h0_0, .inr (1, [.int v0_0_base, .int v0_0_range, .int v0_0_low, .int v0_0_start, .int v0_0_step])), (h0_1, .inr (0, [.ref h0_1_0, .int u45.1])), (h0_1_0, .inl (c0_1_0, 600, .inl u45.2))]) [0, 1, 2, 3] (by decide) rfl
              have hK9 := hK.sub (tys' := [(c0_1_0, .int)]) [0] rfl
              refine W.widen (k := 0) (n := 0) (Nat.le_of_ble_eq_true rfl) (Nat.le_of_ble_eq_true rfl) ?_
              refine tw_ret ?_
              exact W.vret hx hb hr (fun t ht hW => ⟨⟨(u45.1, u45.2), rfl, hw, by rw [ht]; exact hP9, va_K.moved hW.alike hK9, hD9⟩, hS.F ht⟩) hS.2.2 zd_Wr_writeSigned_58
          · have hw := hw.2 h43
            refine lv_aload_n hx hb zd_Wr_writeSigned_21 rfl (lv_at hl 2 rfl) ?_
            refine va_get (D := (dC, dI)) (ci := 6) (v := .ref h0_1) (C := zr_6) (T := zt_6) (N := 7) hx hb htb zi_6 hown hK hP 0 rfl rfl 1 (by decide) (htb _ zw_535) (fun _ h9 => h9) rfl zd_Wr_writeSigned_22 ?_
            refine lv_iload_n hx hb zd_Wr_writeSigned_25 rfl (lv_at hl 1 rfl) ?_
            refine lv_bipush (v := 127) hx hb zd_Wr_writeSigned_26 (by decide) ?_
            refine lv_iand hx hb zd_Wr_writeSigned_28 ?_
            refine lv_topi (fun x48 ex48 => ?_)
            have hw := hw x48 ex48
            refine lv_sipush (v := 128) hx hb zd_Wr_writeSigned_29 (by decide) ?_
            refine lv_ior hx hb zd_Wr_writeSigned_32 ?_
            refine lv_topi (fun x49 ex49 => ?_)
            have hw := hw x49 ex49
            have hPc := hP.sub (ws' := [(h0_1, .inr (0, [.ref h0_1_0, .int v27])), (h0_1_0, .inl (c0_1_0, 600, .inl v26))]) [2, 3] rfl
            have hDc := hD.sub (ws' := [(h0_1, .inr (0, [.ref h0_1_0, .int v27])), (h0_1_0, .inl (c0_1_0, 600, .inl v26))]) [2, 3] (by decide) rfl
            have hKc := hK.sub (tys' := [(c0_1_0, .int)]) [0] rfl
            have hFc := va_free (wc := [(h0_1, .inr (0, [.ref h0_1_0, .int v27])), (h0_1_0, .inl (c0_1_0, 600, .inl v26))]) hD hS hA [2, 3] rfl
            refine tw_callv (tw_runV (As := [.int x49]) (rest := []) ⟨hx, hb, hml, hown, htb⟩ (mt_By_append l hl9 dC dI sa h0_1 h0_1_0 H.size c0_1_0 v27 v26 x49 _ _ hw) (cwV 1 htb (zgV zw_565 zw_164 zw_165 zw_3 zw_166) rfl rfl rfl (by decide +kernel) ⟨(Nat.le_of_ble_eq_true rfl), (Nat.le_of_ble_eq_true rfl)⟩) ⟨zPx_blind, va_recv (ci := 0) (q0 := 2) hK hP rfl rfl, zPx_pre hZ hS hFc hPc hKc hDc⟩ rfl rfl hl.1 rfl (lv_room (Nat.le_of_ble_eq_true rfl)) zd_Wr_writeSigned_33 ⟨(Nat.le_of_ble_eq_true rfl), (Nat.le_of_ble_eq_true rfl)⟩) hS (fun q _ h => hFc q h) hFc (fun q _ h => hFc q h) (fun E9 ce9 q9 u50 t H1 locs ht hvm hw hB hz1 hk1 hS hce hcv hcl => ?_) (fun u50 t H1 locs ht hvm hw hB hz1 hk1 hS => ?_)
            · obtain ⟨hE, hB⟩ := hB
              obtain ⟨hP1, hK1, hD1⟩ := hB
              rw [ht] at hP1
              have hK1 := va_K.moved hvm.symm hK1
              obtain ⟨hP, hD⟩ := va_join (wr := [(h0, .inr (6, [.ref h0_0, .ref h0_1, .int v0_address, .int v0_file, .int v0_line, .int v0_column, .int v0_statement])), (h0_0, .inr (1, [.int v0_0_base, .int v0_0_range, .int v0_0_low, .int v0_0_start, .int v0_0_step]))]) (w1 := [(h0_1, .inr (0, [.ref h0_1_0, .int u50.2.1])), (h0_1_0, .inl (c0_1_0, 600, .inl u50.2.2))]) hP hD [2, 3] [0, 1] rfl rfl (by decide) (by decide) hk1 hFc hP1 hD1
              generalize H1 = H at hP hS hce ⊢
              have hP : va_P (dC, dI) zC [(h0, .inr (6, [.ref h0_0, .ref h0_1, .int v0_address, .int v0_file, .int v0_line, .int v0_column, .int v0_statement])), (h0_0, .inr (1, [.int v0_0_base, .int v0_0_range, .int v0_0_low, .int v0_0_start, .int v0_0_step])), (h0_1, .inr (0, [.ref h0_1_0, .int u50.2.1])), (h0_1_0, .inl (c0_1_0, 600, .inl u50.2.2))] H := hP
              have hD : va_D A [(h0, .inr (6, [.ref h0_0, .ref h0_1, .int v0_address, .int v0_file, .int v0_line, .int v0_column, .int v0_statement])), (h0_0, .inr (1, [.int v0_0_base, .int v0_0_range, .int v0_0_low, .int v0_0_start, .int v0_0_step])), (h0_1, .inr (0, [.ref h0_1_0, .int u50.2.1])), (h0_1_0, .inl (c0_1_0, 600, .inl u50.2.2))] := hD
              have hP9 := hP.sub (ws' := [(h0, .inr (6, [.ref h0_0, .ref h0_1, .int v0_address, .int v0_file, .int v0_line, .int v0_column, .int v0_statement])), (h0_0, .inr (1, [.int v0_0_base, .int v0_0_range, .int v0_0_low, .int v0_0_start, .int v0_0_step])), (h0_1, .inr (0, [.ref h0_1_0, .int u50.2.1])), (h0_1_0, .inl (c0_1_0, 600, .inl u50.2.2))]) [0, 1, 2, 3] rfl
              have hD9 := hD.sub (ws' := [(h0, .inr (6, [.ref h0_0, .ref h0_1, .int v0_address, .int v0_file, .int v0_line, .int v0_column, .int v0_statement])), (h0_0, .inr (1, [.int v0_0_base, .int v0_0_range, .int v0_0_low, .int v0_0_start, .int v0_0_step])), (h0_1, .inr (0, [.ref h0_1_0, .int u50.2.1])), (h0_1_0, .inl (c0_1_0, 600, .inl u50.2.2))]) [0, 1, 2, 3] (by decide) rfl
              have hK9 := hK.sub (tys' := [(c0_1_0, .int)]) [0] rfl
              exact tw_out (E := E9) (fun x hx => (hEx x hx).elim) hlocks hce hcv hcl (fun t ht ha => ⟨(u50.1, (u50.2.1, u50.2.2)), hw, ⟨hE, by rw [ht]; exact hP9, va_K.moved ha hK9, hD9⟩, hS.F ht⟩) hS.2.2 (Nat.le_of_ble_eq_true rfl) (Nat.le_of_ble_eq_true rfl)
            · skip
              obtain ⟨hP1, hK1, hD1⟩ := hB
              rw [ht] at hP1
              have hK1 := va_K.moved hvm.symm hK1
              obtain ⟨hP, hD⟩ := va_join (wr := [(h0, .inr (6, [.ref h0_0, .ref h0_1, .int v0_address, .int v0_file, .int v0_line, .int v0_column, .int v0_statement])), (h0_0, .inr (1, [.int v0_0_base, .int v0_0_range, .int v0_0_low, .int v0_0_start, .int v0_0_step]))]) (w1 := [(h0_1, .inr (0, [.ref h0_1_0, .int u50.1])), (h0_1_0, .inl (c0_1_0, 600, .inl u50.2))]) hP hD [2, 3] [0, 1] rfl rfl (by decide) (by decide) hk1 hFc hP1 hD1
              generalize H1 = H at hP hS ⊢
              have hP : va_P (dC, dI) zC [(h0, .inr (6, [.ref h0_0, .ref h0_1, .int v0_address, .int v0_file, .int v0_line, .int v0_column, .int v0_statement])), (h0_0, .inr (1, [.int v0_0_base, .int v0_0_range, .int v0_0_low, .int v0_0_start, .int v0_0_step])), (h0_1, .inr (0, [.ref h0_1_0, .int u50.1])), (h0_1_0, .inl (c0_1_0, 600, .inl u50.2))] H := hP
              have hD : va_D A [(h0, .inr (6, [.ref h0_0, .ref h0_1, .int v0_address, .int v0_file, .int v0_line, .int v0_column, .int v0_statement])), (h0_0, .inr (1, [.int v0_0_base, .int v0_0_range, .int v0_0_low, .int v0_0_start, .int v0_0_step])), (h0_1, .inr (0, [.ref h0_1_0, .int u50.1])), (h0_1_0, .inl (c0_1_0, 600, .inl u50.2))] := hD
              refine W.widen (k := 0) (n := 0) (Nat.le_of_ble_eq_true rfl) (Nat.le_of_ble_eq_true rfl) ?_
              refine lv_iload_n hx hb zd_Wr_writeSigned_36 rfl (lv_at hl 1 rfl) ?_
              refine lv_bipush (v := 7) hx hb zd_Wr_writeSigned_37 (by decide) ?_
              refine lv_ishr hx hb zd_Wr_writeSigned_39 ?_
              refine lv_topi (fun x53 ex53 => ?_)
              have hw := hw x53 ex53
              refine lv_istore_n (i := 2) (lv' := [(2, .int x53), (3, .int v29), (0, .ref h0), (1, .int p0)]) hx hb zd_Wr_writeSigned_40 rfl hl (by decide) rfl (fun ls hl => ?_)
              obtain ⟨x54, ex54⟩ : ∃ z : Int32, z = v29 + Int32.ofInt 1 := ⟨_, rfl⟩
              have hw := hw x54 ex54
              refine lv_iinc (k := 1) (v := x54) (lv' := [(3, .int x54), (2, .int x53), (0, .ref h0), (1, .int p0)]) hx hb zd_Wr_writeSigned_41 hl rfl ex54.symm (by decide) rfl (fun ls hl => ?_)
              refine lv_goto (tgt := 4) hx hb zd_Wr_writeSigned_44 (by decide) ?_
              exact ih u50.2 u50.1 x53 x54 ls H _ (lv_sub hl [0, 1, 2, 3] rfl) (hP.sub (ws' := [(h0, .inr (6, [.ref h0_0, .ref h0_1, .int v0_address, .int v0_file, .int v0_line, .int v0_column, .int v0_statement])), (h0_0, .inr (1, [.int v0_0_base, .int v0_0_range, .int v0_0_low, .int v0_0_start, .int v0_0_step])), (h0_1, .inr (0, [.ref h0_1_0, .int u50.1])), (h0_1_0, .inl (c0_1_0, 600, .inl u50.2))]) [0, 1, 2, 3] rfl) (hD.sub (ws' := [(h0, .inr (6, [.ref h0_0, .ref h0_1, .int v0_address, .int v0_file, .int v0_line, .int v0_column, .int v0_statement])), (h0_0, .inr (1, [.int v0_0_base, .int v0_0_range, .int v0_0_low, .int v0_0_start, .int v0_0_step])), (h0_1, .inr (0, [.ref h0_1_0, .int u50.1])), (h0_1_0, .inl (c0_1_0, 600, .inl u50.2))]) [0, 1, 2, 3] (by decide) rfl) hS hw
  obtain ⟨k, hw⟩ := hw
  exact lp4 k g0_1_values v0_1_size p0 0 ls H _ hl hP hD hS hw
abbrev zo_Wr_writeStart : Room := { frames := 7, cells := 1, slots := 6, locals := 111 }
abbrev zb_Wr_writeStart (dC : Nat → ClassId) (dI : Nat → Nat → Nat) (A : Nat → Prop) (h0 h0_0 h0_1 h0_1_0 : Nat) (c0_1_0 : ClassId) (v0_file : Int32) (v0_line : Int32) (v0_column : Int32) (v0_statement : Int32) (v0_0_base : Int32) (v0_0_range : Int32) (v0_0_low : Int32) (v0_0_start : Int32) (v0_0_step : Int32) (u : Int32 × Int32 × (Nat → Int32)) (t : State) : Prop := va_P (dC, dI) zC [(h0, .inr (6, [.ref h0_0, .ref h0_1, .int u.1, .int v0_file, .int v0_line, .int v0_column, .int v0_statement])), (h0_0, .inr (1, [.int v0_0_base, .int v0_0_range, .int v0_0_low, .int v0_0_start, .int v0_0_step])), (h0_1, .inr (0, [.ref h0_1_0, .int u.2.1])), (h0_1_0, .inl (c0_1_0, 600, .inl u.2.2))] t.heap ∧ va_K (dC, dI) zC [(c0_1_0, .int)] t ∧ va_D A [(h0, .inr (6, [.ref h0_0, .ref h0_1, .int u.1, .int v0_file, .int v0_line, .int v0_column, .int v0_statement])), (h0_0, .inr (1, [.int v0_0_base, .int v0_0_range, .int v0_0_low, .int v0_0_start, .int v0_0_step])), (h0_1, .inr (0, [.ref h0_1_0, .int u.2.1])), (h0_1_0, .inl (c0_1_0, 600, .inl u.2.2))]
abbrev zx_Wr_writeStart (dC : Nat → ClassId) (dI : Nat → Nat → Nat) (A : Nat → Prop) (h0 h0_0 h0_1 h0_1_0 : Nat) (c0_1_0 : ClassId) (v0_file : Int32) (v0_line : Int32) (v0_column : Int32) (v0_statement : Int32) (v0_0_base : Int32) (v0_0_range : Int32) (v0_0_low : Int32) (v0_0_start : Int32) (v0_0_step : Int32) (E : String) (u : Nat × (Int32 × Int32 × (Nat → Int32))) (t : State) : Prop := E = zE u.1 ∧ zb_Wr_writeStart dC dI A h0 h0_0 h0_1 h0_1_0 c0_1_0 v0_file v0_line v0_column v0_statement v0_0_base v0_0_range v0_0_low v0_0_start v0_0_step u.2 t
set_option maxHeartbeats 4000000 in
set_option maxRecDepth 100000 in
theorem mt_Wr_writeStart (l : Launch) (hl9 : l.stackTraces = false) (dC : Nat → ClassId) (dI : Nat → Nat → Nat) (sa : Nat → Nat) (h0 h0_0 h0_1 h0_1_0 sz : Nat) (c0_1_0 : ClassId) (v0_address : Int32) (v0_file : Int32) (v0_line : Int32) (v0_column : Int32) (v0_statement : Int32) (v0_0_base : Int32) (v0_0_range : Int32) (v0_0_low : Int32) (v0_0_start : Int32) (v0_0_step : Int32) (v0_1_size : Int32) (g0_1_values : Nat → Int32) (p0 : Int32) (post : (Int32 × Int32 × (Nat → Int32)) → Prop) (postX : Nat × (Int32 × Int32 × (Nat → Int32)) → Prop) (hw : wp_Wr_writeStart v0_address v0_1_size g0_1_values p0 post postX) : tw_Met l zy_Wr_writeStart zs_Wr_writeStart zo_Wr_writeStart (zPx dC dI sa [.ref h0, .int p0] sz [(h0, .inr (6, [.ref h0_0, .ref h0_1, .int v0_address, .int v0_file, .int v0_line, .int v0_column, .int v0_statement])), (h0_0, .inr (1, [.int v0_0_base, .int v0_0_range, .int v0_0_low, .int v0_0_start, .int v0_0_step])), (h0_1, .inr (0, [.ref h0_1_0, .int v0_1_size])), (h0_1_0, .inl (c0_1_0, 600, .inl g0_1_values))] [(c0_1_0, .int)]) (va_Qv (fun (u : Int32 × Int32 × (Nat → Int32)) => post u) (zb_Wr_writeStart dC dI (va_A [(h0, .inr (6, [.ref h0_0, .ref h0_1, .int v0_address, .int v0_file, .int v0_line, .int v0_column, .int v0_statement])), (h0_0, .inr (1, [.int v0_0_base, .int v0_0_range, .int v0_0_low, .int v0_0_start, .int v0_0_step])), (h0_1, .inr (0, [.ref h0_1_0, .int v0_1_size])), (h0_1_0, .inl (c0_1_0, 600, .inl g0_1_values))] sz) h0 h0_0 h0_1 h0_1_0 c0_1_0 v0_file v0_line v0_column v0_statement v0_0_base v0_0_range v0_0_low v0_0_start v0_0_step) (va_A [(h0, .inr (6, [.ref h0_0, .ref h0_1, .int v0_address, .int v0_file, .int v0_line, .int v0_column, .int v0_statement])), (h0_0, .inr (1, [.int v0_0_base, .int v0_0_range, .int v0_0_low, .int v0_0_start, .int v0_0_step])), (h0_1, .inr (0, [.ref h0_1_0, .int v0_1_size])), (h0_1_0, .inl (c0_1_0, 600, .inl g0_1_values))] sz)) (vx_X (fun (u : Nat × (Int32 × Int32 × (Nat → Int32))) => postX u) (zx_Wr_writeStart dC dI (va_A [(h0, .inr (6, [.ref h0_0, .ref h0_1, .int v0_address, .int v0_file, .int v0_line, .int v0_column, .int v0_statement])), (h0_0, .inr (1, [.int v0_0_base, .int v0_0_range, .int v0_0_low, .int v0_0_start, .int v0_0_step])), (h0_1, .inr (0, [.ref h0_1_0, .int v0_1_size])), (h0_1_0, .inl (c0_1_0, 600, .inl g0_1_values))] sz) h0 h0_0 h0_1 h0_1_0 c0_1_0 v0_file v0_line v0_column v0_statement v0_0_base v0_0_range v0_0_low v0_0_start v0_0_step) (va_A [(h0, .inr (6, [.ref h0_0, .ref h0_1, .int v0_address, .int v0_file, .int v0_line, .int v0_column, .int v0_statement])), (h0_0, .inr (1, [.int v0_0_base, .int v0_0_range, .int v0_0_low, .int v0_0_start, .int v0_0_step])), (h0_1, .inr (0, [.ref h0_1_0, .int v0_1_size])), (h0_1_0, .inl (c0_1_0, 600, .inl g0_1_values))] sz)) 0 0 1 6 (va_A [(h0, .inr (6, [.ref h0_0, .ref h0_1, .int v0_address, .int v0_file, .int v0_line, .int v0_column, .int v0_statement])), (h0_0, .inr (1, [.int v0_0_base, .int v0_0_range, .int v0_0_low, .int v0_0_start, .int v0_0_step])), (h0_1, .inr (0, [.ref h0_1_0, .int v0_1_size])), (h0_1_0, .inl (c0_1_0, 600, .inl g0_1_values))] sz) := by
  unfold wp_Wr_writeStart at hw
  refine tw_ofW (cc := zc_Wr_writeStart) (maxL := 3) (ret := none) (by decide) rfl ?_
  intro p e s m args below meth c s₁ B hml hEx hv
  obtain ⟨rfl, hsz, hP, hK, hD0, hZ⟩ := hv
  have hx := B.exec
  have hb := B.bytes
  have hr := B.returns
  have hts := atoms_spec (ws := zs_Wr_writeStart) B.pre
  have htb := fun w (h : w ∈ zB) => hts w (List.mem_cons_of_mem _ h)
  have hown : s.vm.findClass zr_6 = some m.cls := findClass_of_methodNamed B.named
  have hlocks := B.notSynchronized
  subst hsz
  have hD := hD0.self (sz := s.heap.size)
  generalize hAe : va_A [(h0, .inr (6, [.ref h0_0, .ref h0_1, .int v0_address, .int v0_file, .int v0_line, .int v0_column, .int v0_statement])), (h0_0, .inr (1, [.int v0_0_base, .int v0_0_range, .int v0_0_low, .int v0_0_start, .int v0_0_step])), (h0_1, .inr (0, [.ref h0_1_0, .int v0_1_size])), (h0_1_0, .inl (c0_1_0, 600, .inl g0_1_values))] s.heap.size = A at hD hZ ⊢
  have hA : ∀ q : Nat, s.heap.size ≤ q → A q := fun q h => by rw [← hAe]; exact Or.inr h
  clear hAe hD0
  have hl := lv_entry ([.ref h0, .int p0]) (n := 3) (Nat.le_of_ble_eq_true rfl)
  rw [lg_entry_eq]
  generalize (lg_sl ([.ref h0, .int p0]) ++ List.replicate (3 - (lg_sl ([.ref h0, .int p0])).length) Slot.unset).toArray = ls at hl ⊢
  have hl : lv_has ls 3 [(0, .ref h0), (1, .int p0)] := hl
  obtain ⟨H, hH⟩ : ∃ H, H = s.heap := ⟨_, rfl⟩
  have hS : va_S A s.heap H [] := by rw [hH]; exact va_S.rf
  rw [← hH] at hP ⊢
  refine lv_aload_n hx hb zd_Wr_writeStart_0 rfl (lv_at hl 0 rfl) ?_
  refine va_get (D := (dC, dI)) (ci := 6) (v := .ref h0_1) (C := zr_6) (T := zt_6) (N := 7) hx hb htb zi_6 hown hK hP 0 rfl rfl 1 (by decide) (htb _ zw_535) (fun _ h9 => h9) rfl zd_Wr_writeStart_1 ?_
  refine lv_iconst (v := 0) hx hb zd_Wr_writeStart_4 (by decide) ?_
  have hPc := hP.sub (ws' := [(h0_1, .inr (0, [.ref h0_1_0, .int v0_1_size])), (h0_1_0, .inl (c0_1_0, 600, .inl g0_1_values))]) [2, 3] rfl
  have hDc := hD.sub (ws' := [(h0_1, .inr (0, [.ref h0_1_0, .int v0_1_size])), (h0_1_0, .inl (c0_1_0, 600, .inl g0_1_values))]) [2, 3] (by decide) rfl
  have hKc := hK.sub (tys' := [(c0_1_0, .int)]) [0] rfl
  have hFc := va_free (wc := [(h0_1, .inr (0, [.ref h0_1_0, .int v0_1_size])), (h0_1_0, .inl (c0_1_0, 600, .inl g0_1_values))]) hD hS hA [2, 3] rfl
  refine tw_callv (tw_runV (As := [.int 0]) (rest := []) ⟨hx, hb, hml, hown, htb⟩ (mt_By_append l hl9 dC dI sa h0_1 h0_1_0 H.size c0_1_0 v0_1_size g0_1_values 0 _ _ hw) (cwV 1 htb (zgV zw_565 zw_164 zw_165 zw_3 zw_166) rfl rfl rfl (by decide +kernel) ⟨(Nat.le_of_ble_eq_true rfl), (Nat.le_of_ble_eq_true rfl)⟩) ⟨zPx_blind, va_recv (ci := 0) (q0 := 2) hK hP rfl rfl, zPx_pre hZ hS hFc hPc hKc hDc⟩ rfl rfl hl.1 rfl (lv_room (Nat.le_of_ble_eq_true rfl)) zd_Wr_writeStart_5 ⟨(Nat.le_of_ble_eq_true rfl), (Nat.le_of_ble_eq_true rfl)⟩) hS (fun q _ h => hFc q h) hFc (fun q _ h => hFc q h) (fun E9 ce9 q9 u1 t H1 locs ht hvm hw hB hz1 hk1 hS hce hcv hcl => ?_) (fun u1 t H1 locs ht hvm hw hB hz1 hk1 hS => ?_)
  · obtain ⟨hE, hB⟩ := hB
    obtain ⟨hP1, hK1, hD1⟩ := hB
    rw [ht] at hP1
    have hK1 := va_K.moved hvm.symm hK1
    obtain ⟨hP, hD⟩ := va_join (wr := [(h0, .inr (6, [.ref h0_0, .ref h0_1, .int v0_address, .int v0_file, .int v0_line, .int v0_column, .int v0_statement])), (h0_0, .inr (1, [.int v0_0_base, .int v0_0_range, .int v0_0_low, .int v0_0_start, .int v0_0_step]))]) (w1 := [(h0_1, .inr (0, [.ref h0_1_0, .int u1.2.1])), (h0_1_0, .inl (c0_1_0, 600, .inl u1.2.2))]) hP hD [2, 3] [0, 1] rfl rfl (by decide) (by decide) hk1 hFc hP1 hD1
    generalize H1 = H at hP hS hce ⊢
    have hP : va_P (dC, dI) zC [(h0, .inr (6, [.ref h0_0, .ref h0_1, .int v0_address, .int v0_file, .int v0_line, .int v0_column, .int v0_statement])), (h0_0, .inr (1, [.int v0_0_base, .int v0_0_range, .int v0_0_low, .int v0_0_start, .int v0_0_step])), (h0_1, .inr (0, [.ref h0_1_0, .int u1.2.1])), (h0_1_0, .inl (c0_1_0, 600, .inl u1.2.2))] H := hP
    have hD : va_D A [(h0, .inr (6, [.ref h0_0, .ref h0_1, .int v0_address, .int v0_file, .int v0_line, .int v0_column, .int v0_statement])), (h0_0, .inr (1, [.int v0_0_base, .int v0_0_range, .int v0_0_low, .int v0_0_start, .int v0_0_step])), (h0_1, .inr (0, [.ref h0_1_0, .int u1.2.1])), (h0_1_0, .inl (c0_1_0, 600, .inl u1.2.2))] := hD
    have hP9 := hP.sub (ws' := [(h0, .inr (6, [.ref h0_0, .ref h0_1, .int v0_address, .int v0_file, .int v0_line, .int v0_column, .int v0_statement])), (h0_0, .inr (1, [.int v0_0_base, .int v0_0_range, .int v0_0_low, .int v0_0_start, .int v0_0_step])), (h0_1, .inr (0, [.ref h0_1_0, .int u1.2.1])), (h0_1_0, .inl (c0_1_0, 600, .inl u1.2.2))]) [0, 1, 2, 3] rfl
    have hD9 := hD.sub (ws' := [(h0, .inr (6, [.ref h0_0, .ref h0_1, .int v0_address, .int v0_file, .int v0_line, .int v0_column, .int v0_statement])), (h0_0, .inr (1, [.int v0_0_base, .int v0_0_range, .int v0_0_low, .int v0_0_start, .int v0_0_step])), (h0_1, .inr (0, [.ref h0_1_0, .int u1.2.1])), (h0_1_0, .inl (c0_1_0, 600, .inl u1.2.2))]) [0, 1, 2, 3] (by decide) rfl
    have hK9 := hK.sub (tys' := [(c0_1_0, .int)]) [0] rfl
    exact tw_out (E := E9) (fun x hx => (hEx x hx).elim) hlocks hce hcv hcl (fun t ht ha => ⟨(u1.1, (v0_address, u1.2.1, u1.2.2)), hw, ⟨hE, by rw [ht]; exact hP9, va_K.moved ha hK9, hD9⟩, hS.F ht⟩) hS.2.2 (Nat.le_of_ble_eq_true rfl) (Nat.le_of_ble_eq_true rfl)
  · skip
    obtain ⟨hP1, hK1, hD1⟩ := hB
    rw [ht] at hP1
    have hK1 := va_K.moved hvm.symm hK1
    obtain ⟨hP, hD⟩ := va_join (wr := [(h0, .inr (6, [.ref h0_0, .ref h0_1, .int v0_address, .int v0_file, .int v0_line, .int v0_column, .int v0_statement])), (h0_0, .inr (1, [.int v0_0_base, .int v0_0_range, .int v0_0_low, .int v0_0_start, .int v0_0_step]))]) (w1 := [(h0_1, .inr (0, [.ref h0_1_0, .int u1.1])), (h0_1_0, .inl (c0_1_0, 600, .inl u1.2))]) hP hD [2, 3] [0, 1] rfl rfl (by decide) (by decide) hk1 hFc hP1 hD1
    generalize H1 = H at hP hS ⊢
    have hP : va_P (dC, dI) zC [(h0, .inr (6, [.ref h0_0, .ref h0_1, .int v0_address, .int v0_file, .int v0_line, .int v0_column, .int v0_statement])), (h0_0, .inr (1, [.int v0_0_base, .int v0_0_range, .int v0_0_low, .int v0_0_start, .int v0_0_step])), (h0_1, .inr (0, [.ref h0_1_0, .int u1.1])), (h0_1_0, .inl (c0_1_0, 600, .inl u1.2))] H := hP
    have hD : va_D A [(h0, .inr (6, [.ref h0_0, .ref h0_1, .int v0_address, .int v0_file, .int v0_line, .int v0_column, .int v0_statement])), (h0_0, .inr (1, [.int v0_0_base, .int v0_0_range, .int v0_0_low, .int v0_0_start, .int v0_0_step])), (h0_1, .inr (0, [.ref h0_1_0, .int u1.1])), (h0_1_0, .inl (c0_1_0, 600, .inl u1.2))] := hD
    refine W.widen (k := 0) (n := 0) (Nat.le_of_ble_eq_true rfl) (Nat.le_of_ble_eq_true rfl) ?_
    refine lv_aload_n hx hb zd_Wr_writeStart_8 rfl (lv_at hl 0 rfl) ?_
    refine va_get (D := (dC, dI)) (ci := 6) (v := .ref h0_1) (C := zr_6) (T := zt_6) (N := 7) hx hb htb zi_6 hown hK hP 0 rfl rfl 1 (by decide) (htb _ zw_535) (fun _ h9 => h9) rfl zd_Wr_writeStart_9 ?_
    refine lv_iconst (v := 5) hx hb zd_Wr_writeStart_12 (by decide) ?_
    have hPc := hP.sub (ws' := [(h0_1, .inr (0, [.ref h0_1_0, .int u1.1])), (h0_1_0, .inl (c0_1_0, 600, .inl u1.2))]) [2, 3] rfl
    have hDc := hD.sub (ws' := [(h0_1, .inr (0, [.ref h0_1_0, .int u1.1])), (h0_1_0, .inl (c0_1_0, 600, .inl u1.2))]) [2, 3] (by decide) rfl
    have hKc := hK.sub (tys' := [(c0_1_0, .int)]) [0] rfl
    have hFc := va_free (wc := [(h0_1, .inr (0, [.ref h0_1_0, .int u1.1])), (h0_1_0, .inl (c0_1_0, 600, .inl u1.2))]) hD hS hA [2, 3] rfl
    refine tw_callv (tw_runV (As := [.int 5]) (rest := []) ⟨hx, hb, hml, hown, htb⟩ (mt_By_append l hl9 dC dI sa h0_1 h0_1_0 H.size c0_1_0 u1.1 u1.2 5 _ _ hw) (cwV 1 htb (zgV zw_565 zw_164 zw_165 zw_3 zw_166) rfl rfl rfl (by decide +kernel) ⟨(Nat.le_of_ble_eq_true rfl), (Nat.le_of_ble_eq_true rfl)⟩) ⟨zPx_blind, va_recv (ci := 0) (q0 := 2) hK hP rfl rfl, zPx_pre hZ hS hFc hPc hKc hDc⟩ rfl rfl hl.1 rfl (lv_room (Nat.le_of_ble_eq_true rfl)) zd_Wr_writeStart_13 ⟨(Nat.le_of_ble_eq_true rfl), (Nat.le_of_ble_eq_true rfl)⟩) hS (fun q _ h => hFc q h) hFc (fun q _ h => hFc q h) (fun E9 ce9 q9 u4 t H1 locs ht hvm hw hB hz1 hk1 hS hce hcv hcl => ?_) (fun u4 t H1 locs ht hvm hw hB hz1 hk1 hS => ?_)
    · obtain ⟨hE, hB⟩ := hB
      obtain ⟨hP1, hK1, hD1⟩ := hB
      rw [ht] at hP1
      have hK1 := va_K.moved hvm.symm hK1
      obtain ⟨hP, hD⟩ := va_join (wr := [(h0, .inr (6, [.ref h0_0, .ref h0_1, .int v0_address, .int v0_file, .int v0_line, .int v0_column, .int v0_statement])), (h0_0, .inr (1, [.int v0_0_base, .int v0_0_range, .int v0_0_low, .int v0_0_start, .int v0_0_step]))]) (w1 := [(h0_1, .inr (0, [.ref h0_1_0, .int u4.2.1])), (h0_1_0, .inl (c0_1_0, 600, .inl u4.2.2))]) hP hD [2, 3] [0, 1] rfl rfl (by decide) (by decide) hk1 hFc hP1 hD1
      generalize H1 = H at hP hS hce ⊢
      have hP : va_P (dC, dI) zC [(h0, .inr (6, [.ref h0_0, .ref h0_1, .int v0_address, .int v0_file, .int v0_line, .int v0_column, .int v0_statement])), (h0_0, .inr (1, [.int v0_0_base, .int v0_0_range, .int v0_0_low, .int v0_0_start, .int v0_0_step])), (h0_1, .inr (0, [.ref h0_1_0, .int u4.2.1])), (h0_1_0, .inl (c0_1_0, 600, .inl u4.2.2))] H := hP
      have hD : va_D A [(h0, .inr (6, [.ref h0_0, .ref h0_1, .int v0_address, .int v0_file, .int v0_line, .int v0_column, .int v0_statement])), (h0_0, .inr (1, [.int v0_0_base, .int v0_0_range, .int v0_0_low, .int v0_0_start, .int v0_0_step])), (h0_1, .inr (0, [.ref h0_1_0, .int u4.2.1])), (h0_1_0, .inl (c0_1_0, 600, .inl u4.2.2))] := hD
      have hP9 := hP.sub (ws' := [(h0, .inr (6, [.ref h0_0, .ref h0_1, .int v0_address, .int v0_file, .int v0_line, .int v0_column, .int v0_statement])), (h0_0, .inr (1, [.int v0_0_base, .int v0_0_range, .int v0_0_low, .int v0_0_start, .int v0_0_step])), (h0_1, .inr (0, [.ref h0_1_0, .int u4.2.1])), (h0_1_0, .inl (c0_1_0, 600, .inl u4.2.2))]) [0, 1, 2, 3] rfl
      have hD9 := hD.sub (ws' := [(h0, .inr (6, [.ref h0_0, .ref h0_1, .int v0_address, .int v0_file, .int v0_line, .int v0_column, .int v0_statement])), (h0_0, .inr (1, [.int v0_0_base, .int v0_0_range, .int v0_0_low, .int v0_0_start, .int v0_0_step])), (h0_1, .inr (0, [.ref h0_1_0, .int u4.2.1])), (h0_1_0, .inl (c0_1_0, 600, .inl u4.2.2))]) [0, 1, 2, 3] (by decide) rfl
      have hK9 := hK.sub (tys' := [(c0_1_0, .int)]) [0] rfl
      exact tw_out (E := E9) (fun x hx => (hEx x hx).elim) hlocks hce hcv hcl (fun t ht ha => ⟨(u4.1, (v0_address, u4.2.1, u4.2.2)), hw, ⟨hE, by rw [ht]; exact hP9, va_K.moved ha hK9, hD9⟩, hS.F ht⟩) hS.2.2 (Nat.le_of_ble_eq_true rfl) (Nat.le_of_ble_eq_true rfl)
    · skip
      obtain ⟨hP1, hK1, hD1⟩ := hB
      rw [ht] at hP1
      have hK1 := va_K.moved hvm.symm hK1
      obtain ⟨hP, hD⟩ := va_join (wr := [(h0, .inr (6, [.ref h0_0, .ref h0_1, .int v0_address, .int v0_file, .int v0_line, .int v0_column, .int v0_statement])), (h0_0, .inr (1, [.int v0_0_base, .int v0_0_range, .int v0_0_low, .int v0_0_start, .int v0_0_step]))]) (w1 := [(h0_1, .inr (0, [.ref h0_1_0, .int u4.1])), (h0_1_0, .inl (c0_1_0, 600, .inl u4.2))]) hP hD [2, 3] [0, 1] rfl rfl (by decide) (by decide) hk1 hFc hP1 hD1
      generalize H1 = H at hP hS ⊢
      have hP : va_P (dC, dI) zC [(h0, .inr (6, [.ref h0_0, .ref h0_1, .int v0_address, .int v0_file, .int v0_line, .int v0_column, .int v0_statement])), (h0_0, .inr (1, [.int v0_0_base, .int v0_0_range, .int v0_0_low, .int v0_0_start, .int v0_0_step])), (h0_1, .inr (0, [.ref h0_1_0, .int u4.1])), (h0_1_0, .inl (c0_1_0, 600, .inl u4.2))] H := hP
      have hD : va_D A [(h0, .inr (6, [.ref h0_0, .ref h0_1, .int v0_address, .int v0_file, .int v0_line, .int v0_column, .int v0_statement])), (h0_0, .inr (1, [.int v0_0_base, .int v0_0_range, .int v0_0_low, .int v0_0_start, .int v0_0_step])), (h0_1, .inr (0, [.ref h0_1_0, .int u4.1])), (h0_1_0, .inl (c0_1_0, 600, .inl u4.2))] := hD
      refine W.widen (k := 0) (n := 0) (Nat.le_of_ble_eq_true rfl) (Nat.le_of_ble_eq_true rfl) ?_
      refine lv_aload_n hx hb zd_Wr_writeStart_16 rfl (lv_at hl 0 rfl) ?_
      refine va_get (D := (dC, dI)) (ci := 6) (v := .ref h0_1) (C := zr_6) (T := zt_6) (N := 7) hx hb htb zi_6 hown hK hP 0 rfl rfl 1 (by decide) (htb _ zw_535) (fun _ h9 => h9) rfl zd_Wr_writeStart_17 ?_
      refine lv_iconst (v := 2) hx hb zd_Wr_writeStart_20 (by decide) ?_
      have hPc := hP.sub (ws' := [(h0_1, .inr (0, [.ref h0_1_0, .int u4.1])), (h0_1_0, .inl (c0_1_0, 600, .inl u4.2))]) [2, 3] rfl
      have hDc := hD.sub (ws' := [(h0_1, .inr (0, [.ref h0_1_0, .int u4.1])), (h0_1_0, .inl (c0_1_0, 600, .inl u4.2))]) [2, 3] (by decide) rfl
      have hKc := hK.sub (tys' := [(c0_1_0, .int)]) [0] rfl
      have hFc := va_free (wc := [(h0_1, .inr (0, [.ref h0_1_0, .int u4.1])), (h0_1_0, .inl (c0_1_0, 600, .inl u4.2))]) hD hS hA [2, 3] rfl
      refine tw_callv (tw_runV (As := [.int 2]) (rest := []) ⟨hx, hb, hml, hown, htb⟩ (mt_By_append l hl9 dC dI sa h0_1 h0_1_0 H.size c0_1_0 u4.1 u4.2 2 _ _ hw) (cwV 1 htb (zgV zw_565 zw_164 zw_165 zw_3 zw_166) rfl rfl rfl (by decide +kernel) ⟨(Nat.le_of_ble_eq_true rfl), (Nat.le_of_ble_eq_true rfl)⟩) ⟨zPx_blind, va_recv (ci := 0) (q0 := 2) hK hP rfl rfl, zPx_pre hZ hS hFc hPc hKc hDc⟩ rfl rfl hl.1 rfl (lv_room (Nat.le_of_ble_eq_true rfl)) zd_Wr_writeStart_21 ⟨(Nat.le_of_ble_eq_true rfl), (Nat.le_of_ble_eq_true rfl)⟩) hS (fun q _ h => hFc q h) hFc (fun q _ h => hFc q h) (fun E9 ce9 q9 u7 t H1 locs ht hvm hw hB hz1 hk1 hS hce hcv hcl => ?_) (fun u7 t H1 locs ht hvm hw hB hz1 hk1 hS => ?_)
      · obtain ⟨hE, hB⟩ := hB
        obtain ⟨hP1, hK1, hD1⟩ := hB
        rw [ht] at hP1
        have hK1 := va_K.moved hvm.symm hK1
        obtain ⟨hP, hD⟩ := va_join (wr := [(h0, .inr (6, [.ref h0_0, .ref h0_1, .int v0_address, .int v0_file, .int v0_line, .int v0_column, .int v0_statement])), (h0_0, .inr (1, [.int v0_0_base, .int v0_0_range, .int v0_0_low, .int v0_0_start, .int v0_0_step]))]) (w1 := [(h0_1, .inr (0, [.ref h0_1_0, .int u7.2.1])), (h0_1_0, .inl (c0_1_0, 600, .inl u7.2.2))]) hP hD [2, 3] [0, 1] rfl rfl (by decide) (by decide) hk1 hFc hP1 hD1
        generalize H1 = H at hP hS hce ⊢
        have hP : va_P (dC, dI) zC [(h0, .inr (6, [.ref h0_0, .ref h0_1, .int v0_address, .int v0_file, .int v0_line, .int v0_column, .int v0_statement])), (h0_0, .inr (1, [.int v0_0_base, .int v0_0_range, .int v0_0_low, .int v0_0_start, .int v0_0_step])), (h0_1, .inr (0, [.ref h0_1_0, .int u7.2.1])), (h0_1_0, .inl (c0_1_0, 600, .inl u7.2.2))] H := hP
        have hD : va_D A [(h0, .inr (6, [.ref h0_0, .ref h0_1, .int v0_address, .int v0_file, .int v0_line, .int v0_column, .int v0_statement])), (h0_0, .inr (1, [.int v0_0_base, .int v0_0_range, .int v0_0_low, .int v0_0_start, .int v0_0_step])), (h0_1, .inr (0, [.ref h0_1_0, .int u7.2.1])), (h0_1_0, .inl (c0_1_0, 600, .inl u7.2.2))] := hD
        have hP9 := hP.sub (ws' := [(h0, .inr (6, [.ref h0_0, .ref h0_1, .int v0_address, .int v0_file, .int v0_line, .int v0_column, .int v0_statement])), (h0_0, .inr (1, [.int v0_0_base, .int v0_0_range, .int v0_0_low, .int v0_0_start, .int v0_0_step])), (h0_1, .inr (0, [.ref h0_1_0, .int u7.2.1])), (h0_1_0, .inl (c0_1_0, 600, .inl u7.2.2))]) [0, 1, 2, 3] rfl
        have hD9 := hD.sub (ws' := [(h0, .inr (6, [.ref h0_0, .ref h0_1, .int v0_address, .int v0_file, .int v0_line, .int v0_column, .int v0_statement])), (h0_0, .inr (1, [.int v0_0_base, .int v0_0_range, .int v0_0_low, .int v0_0_start, .int v0_0_step])), (h0_1, .inr (0, [.ref h0_1_0, .int u7.2.1])), (h0_1_0, .inl (c0_1_0, 600, .inl u7.2.2))]) [0, 1, 2, 3] (by decide) rfl
        have hK9 := hK.sub (tys' := [(c0_1_0, .int)]) [0] rfl
        exact tw_out (E := E9) (fun x hx => (hEx x hx).elim) hlocks hce hcv hcl (fun t ht ha => ⟨(u7.1, (v0_address, u7.2.1, u7.2.2)), hw, ⟨hE, by rw [ht]; exact hP9, va_K.moved ha hK9, hD9⟩, hS.F ht⟩) hS.2.2 (Nat.le_of_ble_eq_true rfl) (Nat.le_of_ble_eq_true rfl)
      · skip
        obtain ⟨hP1, hK1, hD1⟩ := hB
        rw [ht] at hP1
        have hK1 := va_K.moved hvm.symm hK1
        obtain ⟨hP, hD⟩ := va_join (wr := [(h0, .inr (6, [.ref h0_0, .ref h0_1, .int v0_address, .int v0_file, .int v0_line, .int v0_column, .int v0_statement])), (h0_0, .inr (1, [.int v0_0_base, .int v0_0_range, .int v0_0_low, .int v0_0_start, .int v0_0_step]))]) (w1 := [(h0_1, .inr (0, [.ref h0_1_0, .int u7.1])), (h0_1_0, .inl (c0_1_0, 600, .inl u7.2))]) hP hD [2, 3] [0, 1] rfl rfl (by decide) (by decide) hk1 hFc hP1 hD1
        generalize H1 = H at hP hS ⊢
        have hP : va_P (dC, dI) zC [(h0, .inr (6, [.ref h0_0, .ref h0_1, .int v0_address, .int v0_file, .int v0_line, .int v0_column, .int v0_statement])), (h0_0, .inr (1, [.int v0_0_base, .int v0_0_range, .int v0_0_low, .int v0_0_start, .int v0_0_step])), (h0_1, .inr (0, [.ref h0_1_0, .int u7.1])), (h0_1_0, .inl (c0_1_0, 600, .inl u7.2))] H := hP
        have hD : va_D A [(h0, .inr (6, [.ref h0_0, .ref h0_1, .int v0_address, .int v0_file, .int v0_line, .int v0_column, .int v0_statement])), (h0_0, .inr (1, [.int v0_0_base, .int v0_0_range, .int v0_0_low, .int v0_0_start, .int v0_0_step])), (h0_1, .inr (0, [.ref h0_1_0, .int u7.1])), (h0_1_0, .inl (c0_1_0, 600, .inl u7.2))] := hD
        refine W.widen (k := 0) (n := 0) (Nat.le_of_ble_eq_true rfl) (Nat.le_of_ble_eq_true rfl) ?_
        refine lv_iconst (v := 0) hx hb zd_Wr_writeStart_24 (by decide) ?_
        refine lv_istore_n (i := 2) (lv' := [(2, .int 0), (0, .ref h0), (1, .int p0)]) hx hb zd_Wr_writeStart_25 rfl hl (by decide) rfl (fun ls hl => ?_)
        have lp26 : ∀ (k : Nat) (v17 : Nat → Int32) (v18 : Int32) (v19 : Int32) (ls : Array Slot) (H : Heap) (locs : List Loc), lv_has ls 3 [(2, .int v19), (0, .ref h0), (1, .int p0)] → va_P (dC, dI) zC [(h0, .inr (6, [.ref h0_0, .ref h0_1, .int v0_address, .int v0_file, .int v0_line, .int v0_column, .int v0_statement])), (h0_0, .inr (1, [.int v0_0_base, .int v0_0_range, .int v0_0_low, .int v0_0_start, .int v0_0_step])), (h0_1, .inr (0, [.ref h0_1_0, .int v18])), (h0_1_0, .inl (c0_1_0, 600, .inl v17))] H → va_D A [(h0, .inr (6, [.ref h0_0, .ref h0_1, .int v0_address, .int v0_file, .int v0_line, .int v0_column, .int v0_statement])), (h0_0, .inr (1, [.int v0_0_base, .int v0_0_range, .int v0_0_low, .int v0_0_start, .int v0_0_step])), (h0_1, .inr (0, [.ref h0_1_0, .int v18])), (h0_1_0, .inl (c0_1_0, 600, .inl v17))] → va_S A s.heap H locs → wl_Wr_writeStart_26 v0_address p0 post postX k v17 v18 v19 → W p l e (headSpec zs_Wr_writeStart zo_Wr_writeStart).room s m [.ref h0, .int p0].toArray below meth c H locs 0 0 (tw_MQ below (va_Qv (fun (u : Int32 × Int32 × (Nat → Int32)) => post u) (zb_Wr_writeStart dC dI A h0 h0_0 h0_1 h0_1_0 c0_1_0 v0_file v0_line v0_column v0_statement v0_0_base v0_0_range v0_0_low v0_0_start v0_0_step) A) (vx_X (fun (u : Nat × (Int32 × Int32 × (Nat → Int32))) => postX u) (zx_Wr_writeStart dC dI A h0 h0_0 h0_1 h0_1_0 c0_1_0 v0_file v0_line v0_column v0_statement v0_0_base v0_0_range v0_0_low v0_0_start v0_0_step) A) [.ref h0, .int p0].toArray s 0 0 1 6 A) (F0 m 26 ls []) := by
          intro k
          induction k with
          | zero => intro v17 v18 v19 ls H locs hl hP hD hS hw; exact False.elim hw
          | succ k ih =>
            intro v17 v18 v19 ls H locs hl hP hD hS hw
            refine lv_iload_n hx hb zd_Wr_writeStart_26 rfl (lv_at hl 0 rfl) ?_
            refine lv_iconst (v := 4) hx hb zd_Wr_writeStart_27 (by decide) ?_
            refine lv_icmp_ge (tgt := 50) hx hb zd_Wr_writeStart_28 (by decide) (fun h20 => ?_) (fun h20 => ?_)
            · have hw := hw.1 h20
              refine lv_aload_n hx hb zd_Wr_writeStart_50 rfl (lv_at hl 1 rfl) ?_
              refine lv_iload_n hx hb zd_Wr_writeStart_51 rfl (lv_at hl 2 rfl) ?_
              refine va_put (D := (dC, dI)) (ci := 6) (v := .int p0) (ty := .int) (C := zr_6) (T := zt_6) (N := 7) hx hb htb zi_6 zf_6 zk_6 zn_6 hown hK hP hD hS 0 rfl rfl 2 (by decide) (htb _ zw_536) (fun _ h9 => h9) rfl (by decide +kernel) rfl rfl (Nat.le_of_ble_eq_true rfl) zd_Wr_writeStart_52 (fun H locs hP hD hS => ?_)
              have hP : va_P (dC, dI) zC [(h0, .inr (6, [.ref h0_0, .ref h0_1, .int p0, .int v0_file, .int v0_line, .int v0_column, .int v0_statement])), (h0_0, .inr (1, [.int v0_0_base, .int v0_0_range, .int v0_0_low, .int v0_0_start, .int v0_0_step])), (h0_1, .inr (0, [.ref h0_1_0, .int v18])), (h0_1_0, .inl (c0_1_0, 600, .inl v17))] H := hP
              have hD : va_D A [(h0, .inr (6, [.ref h0_0, .ref h0_1, .int p0, .int v0_file, .int v0_line, .int v0_column, .int v0_statement])), (h0_0, .inr (1, [.int v0_0_base, .int v0_0_range, .int v0_0_low, .int v0_0_start, .int v0_0_step])), (h0_1, .inr (0, [.ref h0_1_0, .int v18])), (h0_1_0, .inl (c0_1_0, 600, .inl v17))] := hD
              have hP9 := hP.sub (ws' := [(h0, .inr (6, [.ref h0_0, .ref h0_1, .int p0, .int v0_file, .int v0_line, .int v0_column, .int v0_statement])), (h0_0, .inr (1, [.int v0_0_base, .int v0_0_range, .int v0_0_low, .int v0_0_start, .int v0_0_step])), (h0_1, .inr (0, [.ref h0_1_0, .int v18])), (h0_1_0, .inl (c0_1_0, 600, .inl v17))]) [0, 1, 2, 3] rfl
              have hD9 := hD.sub (ws' := [(h0, .inr (6, [.ref h0_0, .ref h0_1, .int p0, .int v0_file, .int v0_line, .int v0_column, .int v0_statement])), (h0_0, .inr (1, [.int v0_0_base, .int v0_0_range, .int v0_0_low, .int v0_0_start, .int v0_0_step])), (h0_1, .inr (0, [.ref h0_1_0, .int v18])), (h0_1_0, .inl (c0_1_0, 600, .inl v17))]) [0, 1, 2, 3] (by decide) rfl
              have hK9 := hK.sub (tys' := [(c0_1_0, .int)]) [0] rfl
              refine W.widen (k := 0) (n := 0) (Nat.le_of_ble_eq_true rfl) (Nat.le_of_ble_eq_true rfl) ?_
              refine tw_ret ?_
              exact W.vret hx hb hr (fun t ht hW => ⟨⟨(p0, v18, v17), rfl, hw, by rw [ht]; exact hP9, va_K.moved hW.alike hK9, hD9⟩, hS.F ht⟩) hS.2.2 zd_Wr_writeStart_55
            · have hw := hw.2 h20
              refine lv_aload_n hx hb zd_Wr_writeStart_31 rfl (lv_at hl 1 rfl) ?_
              refine va_get (D := (dC, dI)) (ci := 6) (v := .ref h0_1) (C := zr_6) (T := zt_6) (N := 7) hx hb htb zi_6 hown hK hP 0 rfl rfl 1 (by decide) (htb _ zw_535) (fun _ h9 => h9) rfl zd_Wr_writeStart_32 ?_
              refine lv_iload_n hx hb zd_Wr_writeStart_35 rfl (lv_at hl 2 rfl) ?_
              refine lv_bipush (v := 8) hx hb zd_Wr_writeStart_36 (by decide) ?_
              refine lv_iload_n hx hb zd_Wr_writeStart_38 rfl (lv_at hl 0 rfl) ?_
              refine lv_imul hx hb zd_Wr_writeStart_39 ?_
              refine lv_topi (fun x21 ex21 => ?_)
              have hw := hw x21 ex21
              refine lv_ishr hx hb zd_Wr_writeStart_40 ?_
              refine lv_topi (fun x22 ex22 => ?_)
              have hw := hw x22 ex22
              have hPc := hP.sub (ws' := [(h0_1, .inr (0, [.ref h0_1_0, .int v18])), (h0_1_0, .inl (c0_1_0, 600, .inl v17))]) [2, 3] rfl
              have hDc := hD.sub (ws' := [(h0_1, .inr (0, [.ref h0_1_0, .int v18])), (h0_1_0, .inl (c0_1_0, 600, .inl v17))]) [2, 3] (by decide) rfl
              have hKc := hK.sub (tys' := [(c0_1_0, .int)]) [0] rfl
              have hFc := va_free (wc := [(h0_1, .inr (0, [.ref h0_1_0, .int v18])), (h0_1_0, .inl (c0_1_0, 600, .inl v17))]) hD hS hA [2, 3] rfl
              refine tw_callv (tw_runV (As := [.int x22]) (rest := []) ⟨hx, hb, hml, hown, htb⟩ (mt_By_append l hl9 dC dI sa h0_1 h0_1_0 H.size c0_1_0 v18 v17 x22 _ _ hw) (cwV 1 htb (zgV zw_565 zw_164 zw_165 zw_3 zw_166) rfl rfl rfl (by decide +kernel) ⟨(Nat.le_of_ble_eq_true rfl), (Nat.le_of_ble_eq_true rfl)⟩) ⟨zPx_blind, va_recv (ci := 0) (q0 := 2) hK hP rfl rfl, zPx_pre hZ hS hFc hPc hKc hDc⟩ rfl rfl hl.1 rfl (lv_room (Nat.le_of_ble_eq_true rfl)) zd_Wr_writeStart_41 ⟨(Nat.le_of_ble_eq_true rfl), (Nat.le_of_ble_eq_true rfl)⟩) hS (fun q _ h => hFc q h) hFc (fun q _ h => hFc q h) (fun E9 ce9 q9 u23 t H1 locs ht hvm hw hB hz1 hk1 hS hce hcv hcl => ?_) (fun u23 t H1 locs ht hvm hw hB hz1 hk1 hS => ?_)
              · obtain ⟨hE, hB⟩ := hB
                obtain ⟨hP1, hK1, hD1⟩ := hB
                rw [ht] at hP1
                have hK1 := va_K.moved hvm.symm hK1
                obtain ⟨hP, hD⟩ := va_join (wr := [(h0, .inr (6, [.ref h0_0, .ref h0_1, .int v0_address, .int v0_file, .int v0_line, .int v0_column, .int v0_statement])), (h0_0, .inr (1, [.int v0_0_base, .int v0_0_range, .int v0_0_low, .int v0_0_start, .int v0_0_step]))]) (w1 := [(h0_1, .inr (0, [.ref h0_1_0, .int u23.2.1])), (h0_1_0, .inl (c0_1_0, 600, .inl u23.2.2))]) hP hD [2, 3] [0, 1] rfl rfl (by decide) (by decide) hk1 hFc hP1 hD1
                generalize H1 = H at hP hS hce ⊢
                have hP : va_P (dC, dI) zC [(h0, .inr (6, [.ref h0_0, .ref h0_1, .int v0_address, .int v0_file, .int v0_line, .int v0_column, .int v0_statement])), (h0_0, .inr (1, [.int v0_0_base, .int v0_0_range, .int v0_0_low, .int v0_0_start, .int v0_0_step])), (h0_1, .inr (0, [.ref h0_1_0, .int u23.2.1])), (h0_1_0, .inl (c0_1_0, 600, .inl u23.2.2))] H := hP
                have hD : va_D A [(h0, .inr (6, [.ref h0_0, .ref h0_1, .int v0_address, .int v0_file, .int v0_line, .int v0_column, .int v0_statement])), (h0_0, .inr (1, [.int v0_0_base, .int v0_0_range, .int v0_0_low, .int v0_0_start, .int v0_0_step])), (h0_1, .inr (0, [.ref h0_1_0, .int u23.2.1])), (h0_1_0, .inl (c0_1_0, 600, .inl u23.2.2))] := hD
                have hP9 := hP.sub (ws' := [(h0, .inr (6, [.ref h0_0, .ref h0_1, .int v0_address, .int v0_file, .int v0_line, .int v0_column, .int v0_statement])), (h0_0, .inr (1, [.int v0_0_base, .int v0_0_range, .int v0_0_low, .int v0_0_start, .int v0_0_step])), (h0_1, .inr (0, [.ref h0_1_0, .int u23.2.1])), (h0_1_0, .inl (c0_1_0, 600, .inl u23.2.2))]) [0, 1, 2, 3] rfl
                have hD9 := hD.sub (ws' := [(h0, .inr (6, [.ref h0_0, .ref h0_1, .int v0_address, .int v0_file, .int v0_line, .int v0_column, .int v0_statement])), (h0_0, .inr (1, [.int v0_0_base, .int v0_0_range, .int v0_0_low, .int v0_0_start, .int v0_0_step])), (h0_1, .inr (0, [.ref h0_1_0, .int u23.2.1])), (h0_1_0, .inl (c0_1_0, 600, .inl u23.2.2))]) [0, 1, 2, 3] (by decide) rfl
                have hK9 := hK.sub (tys' := [(c0_1_0, .int)]) [0] rfl
                exact tw_out (E := E9) (fun x hx => (hEx x hx).elim) hlocks hce hcv hcl (fun t ht ha => ⟨(u23.1, (v0_address, u23.2.1, u23.2.2)), hw, ⟨hE, by rw [ht]; exact hP9, va_K.moved ha hK9, hD9⟩, hS.F ht⟩) hS.2.2 (Nat.le_of_ble_eq_true rfl) (Nat.le_of_ble_eq_true rfl)
              · skip
                obtain ⟨hP1, hK1, hD1⟩ := hB
                rw [ht] at hP1
                have hK1 := va_K.moved hvm.symm hK1
                obtain ⟨hP, hD⟩ := va_join (wr := [(h0, .inr (6, [.ref h0_0, .ref h0_1, .int v0_address, .int v0_file, .int v0_line, .int v0_column, .int v0_statement])), (h0_0, .inr (1, [.int v0_0_base, .int v0_0_range, .int v0_0_low, .int v0_0_start, .int v0_0_step]))]) (w1 := [(h0_1, .inr (0, [.ref h0_1_0, .int u23.1])), (h0_1_0, .inl (c0_1_0, 600, .inl u23.2))]) hP hD [2, 3] [0, 1] rfl rfl (by decide) (by decide) hk1 hFc hP1 hD1
                generalize H1 = H at hP hS ⊢
                have hP : va_P (dC, dI) zC [(h0, .inr (6, [.ref h0_0, .ref h0_1, .int v0_address, .int v0_file, .int v0_line, .int v0_column, .int v0_statement])), (h0_0, .inr (1, [.int v0_0_base, .int v0_0_range, .int v0_0_low, .int v0_0_start, .int v0_0_step])), (h0_1, .inr (0, [.ref h0_1_0, .int u23.1])), (h0_1_0, .inl (c0_1_0, 600, .inl u23.2))] H := hP
                have hD : va_D A [(h0, .inr (6, [.ref h0_0, .ref h0_1, .int v0_address, .int v0_file, .int v0_line, .int v0_column, .int v0_statement])), (h0_0, .inr (1, [.int v0_0_base, .int v0_0_range, .int v0_0_low, .int v0_0_start, .int v0_0_step])), (h0_1, .inr (0, [.ref h0_1_0, .int u23.1])), (h0_1_0, .inl (c0_1_0, 600, .inl u23.2))] := hD
                refine W.widen (k := 0) (n := 0) (Nat.le_of_ble_eq_true rfl) (Nat.le_of_ble_eq_true rfl) ?_
                obtain ⟨x26, ex26⟩ : ∃ z : Int32, z = v19 + Int32.ofInt 1 := ⟨_, rfl⟩
                have hw := hw x26 ex26
                refine lv_iinc (k := 0) (v := x26) (lv' := [(2, .int x26), (0, .ref h0), (1, .int p0)]) hx hb zd_Wr_writeStart_44 hl rfl ex26.symm (by decide) rfl (fun ls hl => ?_)
                refine lv_goto (tgt := 26) hx hb zd_Wr_writeStart_47 (by decide) ?_
                exact ih u23.2 u23.1 x26 ls H _ (lv_sub hl [0, 1, 2] rfl) (hP.sub (ws' := [(h0, .inr (6, [.ref h0_0, .ref h0_1, .int v0_address, .int v0_file, .int v0_line, .int v0_column, .int v0_statement])), (h0_0, .inr (1, [.int v0_0_base, .int v0_0_range, .int v0_0_low, .int v0_0_start, .int v0_0_step])), (h0_1, .inr (0, [.ref h0_1_0, .int u23.1])), (h0_1_0, .inl (c0_1_0, 600, .inl u23.2))]) [0, 1, 2, 3] rfl) (hD.sub (ws' := [(h0, .inr (6, [.ref h0_0, .ref h0_1, .int v0_address, .int v0_file, .int v0_line, .int v0_column, .int v0_statement])), (h0_0, .inr (1, [.int v0_0_base, .int v0_0_range, .int v0_0_low, .int v0_0_start, .int v0_0_step])), (h0_1, .inr (0, [.ref h0_1_0, .int u23.1])), (h0_1_0, .inl (c0_1_0, 600, .inl u23.2))]) [0, 1, 2, 3] (by decide) rfl) hS hw
        obtain ⟨k, hw⟩ := hw
        exact lp26 k u7.2 u7.1 0 ls H _ hl hP hD hS hw
abbrev zo_Wr_writeFile : Room := { frames := 8, cells := 1, slots := 6, locals := 134 }
abbrev zb_Wr_writeFile (dC : Nat → ClassId) (dI : Nat → Nat → Nat) (A : Nat → Prop) (h0 h0_0 h0_1 h0_1_0 : Nat) (c0_1_0 : ClassId) (v0_address : Int32) (v0_line : Int32) (v0_column : Int32) (v0_statement : Int32) (v0_0_base : Int32) (v0_0_range : Int32) (v0_0_low : Int32) (v0_0_start : Int32) (v0_0_step : Int32) (u : Int32 × Int32 × (Nat → Int32)) (t : State) : Prop := va_P (dC, dI) zC [(h0, .inr (6, [.ref h0_0, .ref h0_1, .int v0_address, .int u.1, .int v0_line, .int v0_column, .int v0_statement])), (h0_0, .inr (1, [.int v0_0_base, .int v0_0_range, .int v0_0_low, .int v0_0_start, .int v0_0_step])), (h0_1, .inr (0, [.ref h0_1_0, .int u.2.1])), (h0_1_0, .inl (c0_1_0, 600, .inl u.2.2))] t.heap ∧ va_K (dC, dI) zC [(c0_1_0, .int)] t ∧ va_D A [(h0, .inr (6, [.ref h0_0, .ref h0_1, .int v0_address, .int u.1, .int v0_line, .int v0_column, .int v0_statement])), (h0_0, .inr (1, [.int v0_0_base, .int v0_0_range, .int v0_0_low, .int v0_0_start, .int v0_0_step])), (h0_1, .inr (0, [.ref h0_1_0, .int u.2.1])), (h0_1_0, .inl (c0_1_0, 600, .inl u.2.2))]
abbrev zx_Wr_writeFile (dC : Nat → ClassId) (dI : Nat → Nat → Nat) (A : Nat → Prop) (h0 h0_0 h0_1 h0_1_0 : Nat) (c0_1_0 : ClassId) (v0_address : Int32) (v0_line : Int32) (v0_column : Int32) (v0_statement : Int32) (v0_0_base : Int32) (v0_0_range : Int32) (v0_0_low : Int32) (v0_0_start : Int32) (v0_0_step : Int32) (E : String) (u : Nat × (Int32 × Int32 × (Nat → Int32))) (t : State) : Prop := E = zE u.1 ∧ zb_Wr_writeFile dC dI A h0 h0_0 h0_1 h0_1_0 c0_1_0 v0_address v0_line v0_column v0_statement v0_0_base v0_0_range v0_0_low v0_0_start v0_0_step u.2 t
set_option maxHeartbeats 4000000 in
set_option maxRecDepth 100000 in
theorem mt_Wr_writeFile (l : Launch) (hl9 : l.stackTraces = false) (dC : Nat → ClassId) (dI : Nat → Nat → Nat) (sa : Nat → Nat) (h0 h0_0 h0_1 h0_1_0 sz : Nat) (c0_1_0 : ClassId) (v0_address : Int32) (v0_file : Int32) (v0_line : Int32) (v0_column : Int32) (v0_statement : Int32) (v0_0_base : Int32) (v0_0_range : Int32) (v0_0_low : Int32) (v0_0_start : Int32) (v0_0_step : Int32) (v0_1_size : Int32) (g0_1_values : Nat → Int32) (p0 : Int32) (post : (Int32 × Int32 × (Nat → Int32)) → Prop) (postX : Nat × (Int32 × Int32 × (Nat → Int32)) → Prop) (hw : wp_Wr_writeFile v0_file v0_1_size g0_1_values p0 post postX) : tw_Met l zy_Wr_writeFile zs_Wr_writeFile zo_Wr_writeFile (zPx dC dI sa [.ref h0, .int p0] sz [(h0, .inr (6, [.ref h0_0, .ref h0_1, .int v0_address, .int v0_file, .int v0_line, .int v0_column, .int v0_statement])), (h0_0, .inr (1, [.int v0_0_base, .int v0_0_range, .int v0_0_low, .int v0_0_start, .int v0_0_step])), (h0_1, .inr (0, [.ref h0_1_0, .int v0_1_size])), (h0_1_0, .inl (c0_1_0, 600, .inl g0_1_values))] [(c0_1_0, .int)]) (va_Qv (fun (u : Int32 × Int32 × (Nat → Int32)) => post u) (zb_Wr_writeFile dC dI (va_A [(h0, .inr (6, [.ref h0_0, .ref h0_1, .int v0_address, .int v0_file, .int v0_line, .int v0_column, .int v0_statement])), (h0_0, .inr (1, [.int v0_0_base, .int v0_0_range, .int v0_0_low, .int v0_0_start, .int v0_0_step])), (h0_1, .inr (0, [.ref h0_1_0, .int v0_1_size])), (h0_1_0, .inl (c0_1_0, 600, .inl g0_1_values))] sz) h0 h0_0 h0_1 h0_1_0 c0_1_0 v0_address v0_line v0_column v0_statement v0_0_base v0_0_range v0_0_low v0_0_start v0_0_step) (va_A [(h0, .inr (6, [.ref h0_0, .ref h0_1, .int v0_address, .int v0_file, .int v0_line, .int v0_column, .int v0_statement])), (h0_0, .inr (1, [.int v0_0_base, .int v0_0_range, .int v0_0_low, .int v0_0_start, .int v0_0_step])), (h0_1, .inr (0, [.ref h0_1_0, .int v0_1_size])), (h0_1_0, .inl (c0_1_0, 600, .inl g0_1_values))] sz)) (vx_X (fun (u : Nat × (Int32 × Int32 × (Nat → Int32))) => postX u) (zx_Wr_writeFile dC dI (va_A [(h0, .inr (6, [.ref h0_0, .ref h0_1, .int v0_address, .int v0_file, .int v0_line, .int v0_column, .int v0_statement])), (h0_0, .inr (1, [.int v0_0_base, .int v0_0_range, .int v0_0_low, .int v0_0_start, .int v0_0_step])), (h0_1, .inr (0, [.ref h0_1_0, .int v0_1_size])), (h0_1_0, .inl (c0_1_0, 600, .inl g0_1_values))] sz) h0 h0_0 h0_1 h0_1_0 c0_1_0 v0_address v0_line v0_column v0_statement v0_0_base v0_0_range v0_0_low v0_0_start v0_0_step) (va_A [(h0, .inr (6, [.ref h0_0, .ref h0_1, .int v0_address, .int v0_file, .int v0_line, .int v0_column, .int v0_statement])), (h0_0, .inr (1, [.int v0_0_base, .int v0_0_range, .int v0_0_low, .int v0_0_start, .int v0_0_step])), (h0_1, .inr (0, [.ref h0_1_0, .int v0_1_size])), (h0_1_0, .inl (c0_1_0, 600, .inl g0_1_values))] sz)) 0 0 1 6 (va_A [(h0, .inr (6, [.ref h0_0, .ref h0_1, .int v0_address, .int v0_file, .int v0_line, .int v0_column, .int v0_statement])), (h0_0, .inr (1, [.int v0_0_base, .int v0_0_range, .int v0_0_low, .int v0_0_start, .int v0_0_step])), (h0_1, .inr (0, [.ref h0_1_0, .int v0_1_size])), (h0_1_0, .inl (c0_1_0, 600, .inl g0_1_values))] sz) := by
  unfold wp_Wr_writeFile at hw
  refine tw_ofW (cc := zc_Wr_writeFile) (maxL := 2) (ret := none) (by decide) rfl ?_
  intro p e s m args below meth c s₁ B hml hEx hv
  obtain ⟨rfl, hsz, hP, hK, hD0, hZ⟩ := hv
  have hx := B.exec
  have hb := B.bytes
  have hr := B.returns
  have hts := atoms_spec (ws := zs_Wr_writeFile) B.pre
  have htb := fun w (h : w ∈ zB) => hts w (List.mem_cons_of_mem _ h)
  have hown : s.vm.findClass zr_6 = some m.cls := findClass_of_methodNamed B.named
  have hlocks := B.notSynchronized
  subst hsz
  have hD := hD0.self (sz := s.heap.size)
  generalize hAe : va_A [(h0, .inr (6, [.ref h0_0, .ref h0_1, .int v0_address, .int v0_file, .int v0_line, .int v0_column, .int v0_statement])), (h0_0, .inr (1, [.int v0_0_base, .int v0_0_range, .int v0_0_low, .int v0_0_start, .int v0_0_step])), (h0_1, .inr (0, [.ref h0_1_0, .int v0_1_size])), (h0_1_0, .inl (c0_1_0, 600, .inl g0_1_values))] s.heap.size = A at hD hZ ⊢
  have hA : ∀ q : Nat, s.heap.size ≤ q → A q := fun q h => by rw [← hAe]; exact Or.inr h
  clear hAe hD0
  have hl := lv_entry ([.ref h0, .int p0]) (n := 2) (Nat.le_of_ble_eq_true rfl)
  rw [lg_entry_eq]
  generalize (lg_sl ([.ref h0, .int p0]) ++ List.replicate (2 - (lg_sl ([.ref h0, .int p0])).length) Slot.unset).toArray = ls at hl ⊢
  have hl : lv_has ls 2 [(0, .ref h0), (1, .int p0)] := hl
  obtain ⟨H, hH⟩ : ∃ H, H = s.heap := ⟨_, rfl⟩
  have hS : va_S A s.heap H [] := by rw [hH]; exact va_S.rf
  rw [← hH] at hP ⊢
  refine lv_iload_n hx hb zd_Wr_writeFile_0 rfl (lv_at hl 1 rfl) ?_
  refine lv_aload_n hx hb zd_Wr_writeFile_1 rfl (lv_at hl 0 rfl) ?_
  refine va_get (D := (dC, dI)) (ci := 6) (v := .int v0_file) (C := zr_6) (T := zt_6) (N := 7) hx hb htb zi_6 hown hK hP 0 rfl rfl 3 (by decide) (htb _ zw_537) (fun _ h9 => h9) rfl zd_Wr_writeFile_2 ?_
  refine lv_icmp_eq (tgt := 26) hx hb zd_Wr_writeFile_5 (by decide) (fun h1 => ?_) (fun h1 => ?_)
  · have hw := hw.1 h1
    have hP9 := hP.sub (ws' := [(h0, .inr (6, [.ref h0_0, .ref h0_1, .int v0_address, .int v0_file, .int v0_line, .int v0_column, .int v0_statement])), (h0_0, .inr (1, [.int v0_0_base, .int v0_0_range, .int v0_0_low, .int v0_0_start, .int v0_0_step])), (h0_1, .inr (0, [.ref h0_1_0, .int v0_1_size])), (h0_1_0, .inl (c0_1_0, 600, .inl g0_1_values))]) [0, 1, 2, 3] rfl
    have hD9 := hD.sub (ws' := [(h0, .inr (6, [.ref h0_0, .ref h0_1, .int v0_address, .int v0_file, .int v0_line, .int v0_column, .int v0_statement])), (h0_0, .inr (1, [.int v0_0_base, .int v0_0_range, .int v0_0_low, .int v0_0_start, .int v0_0_step])), (h0_1, .inr (0, [.ref h0_1_0, .int v0_1_size])), (h0_1_0, .inl (c0_1_0, 600, .inl g0_1_values))]) [0, 1, 2, 3] (by decide) rfl
    have hK9 := hK.sub (tys' := [(c0_1_0, .int)]) [0] rfl
    refine W.widen (k := 0) (n := 0) (Nat.le_of_ble_eq_true rfl) (Nat.le_of_ble_eq_true rfl) ?_
    refine tw_ret ?_
    exact W.vret hx hb hr (fun t ht hW => ⟨⟨(v0_file, v0_1_size, g0_1_values), rfl, hw, by rw [ht]; exact hP9, va_K.moved hW.alike hK9, hD9⟩, hS.F ht⟩) hS.2.2 zd_Wr_writeFile_26
  · have hw := hw.2 h1
    refine lv_aload_n hx hb zd_Wr_writeFile_8 rfl (lv_at hl 0 rfl) ?_
    refine va_get (D := (dC, dI)) (ci := 6) (v := .ref h0_1) (C := zr_6) (T := zt_6) (N := 7) hx hb htb zi_6 hown hK hP 0 rfl rfl 1 (by decide) (htb _ zw_535) (fun _ h9 => h9) rfl zd_Wr_writeFile_9 ?_
    refine lv_iconst (v := 4) hx hb zd_Wr_writeFile_12 (by decide) ?_
    have hPc := hP.sub (ws' := [(h0_1, .inr (0, [.ref h0_1_0, .int v0_1_size])), (h0_1_0, .inl (c0_1_0, 600, .inl g0_1_values))]) [2, 3] rfl
    have hDc := hD.sub (ws' := [(h0_1, .inr (0, [.ref h0_1_0, .int v0_1_size])), (h0_1_0, .inl (c0_1_0, 600, .inl g0_1_values))]) [2, 3] (by decide) rfl
    have hKc := hK.sub (tys' := [(c0_1_0, .int)]) [0] rfl
    have hFc := va_free (wc := [(h0_1, .inr (0, [.ref h0_1_0, .int v0_1_size])), (h0_1_0, .inl (c0_1_0, 600, .inl g0_1_values))]) hD hS hA [2, 3] rfl
    refine tw_callv (tw_runV (As := [.int 4]) (rest := []) ⟨hx, hb, hml, hown, htb⟩ (mt_By_append l hl9 dC dI sa h0_1 h0_1_0 H.size c0_1_0 v0_1_size g0_1_values 4 _ _ hw) (cwV 1 htb (zgV zw_565 zw_164 zw_165 zw_3 zw_166) rfl rfl rfl (by decide +kernel) ⟨(Nat.le_of_ble_eq_true rfl), (Nat.le_of_ble_eq_true rfl)⟩) ⟨zPx_blind, va_recv (ci := 0) (q0 := 2) hK hP rfl rfl, zPx_pre hZ hS hFc hPc hKc hDc⟩ rfl rfl hl.1 rfl (lv_room (Nat.le_of_ble_eq_true rfl)) zd_Wr_writeFile_13 ⟨(Nat.le_of_ble_eq_true rfl), (Nat.le_of_ble_eq_true rfl)⟩) hS (fun q _ h => hFc q h) hFc (fun q _ h => hFc q h) (fun E9 ce9 q9 u2 t H1 locs ht hvm hw hB hz1 hk1 hS hce hcv hcl => ?_) (fun u2 t H1 locs ht hvm hw hB hz1 hk1 hS => ?_)
    · obtain ⟨hE, hB⟩ := hB
      obtain ⟨hP1, hK1, hD1⟩ := hB
      rw [ht] at hP1
      have hK1 := va_K.moved hvm.symm hK1
      obtain ⟨hP, hD⟩ := va_join (wr := [(h0, .inr (6, [.ref h0_0, .ref h0_1, .int v0_address, .int v0_file, .int v0_line, .int v0_column, .int v0_statement])), (h0_0, .inr (1, [.int v0_0_base, .int v0_0_range, .int v0_0_low, .int v0_0_start, .int v0_0_step]))]) (w1 := [(h0_1, .inr (0, [.ref h0_1_0, .int u2.2.1])), (h0_1_0, .inl (c0_1_0, 600, .inl u2.2.2))]) hP hD [2, 3] [0, 1] rfl rfl (by decide) (by decide) hk1 hFc hP1 hD1
      generalize H1 = H at hP hS hce ⊢
      have hP : va_P (dC, dI) zC [(h0, .inr (6, [.ref h0_0, .ref h0_1, .int v0_address, .int v0_file, .int v0_line, .int v0_column, .int v0_statement])), (h0_0, .inr (1, [.int v0_0_base, .int v0_0_range, .int v0_0_low, .int v0_0_start, .int v0_0_step])), (h0_1, .inr (0, [.ref h0_1_0, .int u2.2.1])), (h0_1_0, .inl (c0_1_0, 600, .inl u2.2.2))] H := hP
      have hD : va_D A [(h0, .inr (6, [.ref h0_0, .ref h0_1, .int v0_address, .int v0_file, .int v0_line, .int v0_column, .int v0_statement])), (h0_0, .inr (1, [.int v0_0_base, .int v0_0_range, .int v0_0_low, .int v0_0_start, .int v0_0_step])), (h0_1, .inr (0, [.ref h0_1_0, .int u2.2.1])), (h0_1_0, .inl (c0_1_0, 600, .inl u2.2.2))] := hD
      have hP9 := hP.sub (ws' := [(h0, .inr (6, [.ref h0_0, .ref h0_1, .int v0_address, .int v0_file, .int v0_line, .int v0_column, .int v0_statement])), (h0_0, .inr (1, [.int v0_0_base, .int v0_0_range, .int v0_0_low, .int v0_0_start, .int v0_0_step])), (h0_1, .inr (0, [.ref h0_1_0, .int u2.2.1])), (h0_1_0, .inl (c0_1_0, 600, .inl u2.2.2))]) [0, 1, 2, 3] rfl
      have hD9 := hD.sub (ws' := [(h0, .inr (6, [.ref h0_0, .ref h0_1, .int v0_address, .int v0_file, .int v0_line, .int v0_column, .int v0_statement])), (h0_0, .inr (1, [.int v0_0_base, .int v0_0_range, .int v0_0_low, .int v0_0_start, .int v0_0_step])), (h0_1, .inr (0, [.ref h0_1_0, .int u2.2.1])), (h0_1_0, .inl (c0_1_0, 600, .inl u2.2.2))]) [0, 1, 2, 3] (by decide) rfl
      have hK9 := hK.sub (tys' := [(c0_1_0, .int)]) [0] rfl
      exact tw_out (E := E9) (fun x hx => (hEx x hx).elim) hlocks hce hcv hcl (fun t ht ha => ⟨(u2.1, (v0_file, u2.2.1, u2.2.2)), hw, ⟨hE, by rw [ht]; exact hP9, va_K.moved ha hK9, hD9⟩, hS.F ht⟩) hS.2.2 (Nat.le_of_ble_eq_true rfl) (Nat.le_of_ble_eq_true rfl)
    · skip
      obtain ⟨hP1, hK1, hD1⟩ := hB
      rw [ht] at hP1
      have hK1 := va_K.moved hvm.symm hK1
      obtain ⟨hP, hD⟩ := va_join (wr := [(h0, .inr (6, [.ref h0_0, .ref h0_1, .int v0_address, .int v0_file, .int v0_line, .int v0_column, .int v0_statement])), (h0_0, .inr (1, [.int v0_0_base, .int v0_0_range, .int v0_0_low, .int v0_0_start, .int v0_0_step]))]) (w1 := [(h0_1, .inr (0, [.ref h0_1_0, .int u2.1])), (h0_1_0, .inl (c0_1_0, 600, .inl u2.2))]) hP hD [2, 3] [0, 1] rfl rfl (by decide) (by decide) hk1 hFc hP1 hD1
      generalize H1 = H at hP hS ⊢
      have hP : va_P (dC, dI) zC [(h0, .inr (6, [.ref h0_0, .ref h0_1, .int v0_address, .int v0_file, .int v0_line, .int v0_column, .int v0_statement])), (h0_0, .inr (1, [.int v0_0_base, .int v0_0_range, .int v0_0_low, .int v0_0_start, .int v0_0_step])), (h0_1, .inr (0, [.ref h0_1_0, .int u2.1])), (h0_1_0, .inl (c0_1_0, 600, .inl u2.2))] H := hP
      have hD : va_D A [(h0, .inr (6, [.ref h0_0, .ref h0_1, .int v0_address, .int v0_file, .int v0_line, .int v0_column, .int v0_statement])), (h0_0, .inr (1, [.int v0_0_base, .int v0_0_range, .int v0_0_low, .int v0_0_start, .int v0_0_step])), (h0_1, .inr (0, [.ref h0_1_0, .int u2.1])), (h0_1_0, .inl (c0_1_0, 600, .inl u2.2))] := hD
      refine W.widen (k := 0) (n := 0) (Nat.le_of_ble_eq_true rfl) (Nat.le_of_ble_eq_true rfl) ?_
      refine lv_aload_n hx hb zd_Wr_writeFile_16 rfl (lv_at hl 0 rfl) ?_
      refine lv_iload_n hx hb zd_Wr_writeFile_17 rfl (lv_at hl 1 rfl) ?_
      have hPc := hP.sub (ws' := [(h0, .inr (6, [.ref h0_0, .ref h0_1, .int v0_address, .int v0_file, .int v0_line, .int v0_column, .int v0_statement])), (h0_0, .inr (1, [.int v0_0_base, .int v0_0_range, .int v0_0_low, .int v0_0_start, .int v0_0_step])), (h0_1, .inr (0, [.ref h0_1_0, .int u2.1])), (h0_1_0, .inl (c0_1_0, 600, .inl u2.2))]) [0, 1, 2, 3] rfl
      have hDc := hD.sub (ws' := [(h0, .inr (6, [.ref h0_0, .ref h0_1, .int v0_address, .int v0_file, .int v0_line, .int v0_column, .int v0_statement])), (h0_0, .inr (1, [.int v0_0_base, .int v0_0_range, .int v0_0_low, .int v0_0_start, .int v0_0_step])), (h0_1, .inr (0, [.ref h0_1_0, .int u2.1])), (h0_1_0, .inl (c0_1_0, 600, .inl u2.2))]) [0, 1, 2, 3] (by decide) rfl
      have hKc := hK.sub (tys' := [(c0_1_0, .int)]) [0] rfl
      have hFc := va_free (wc := [(h0, .inr (6, [.ref h0_0, .ref h0_1, .int v0_address, .int v0_file, .int v0_line, .int v0_column, .int v0_statement])), (h0_0, .inr (1, [.int v0_0_base, .int v0_0_range, .int v0_0_low, .int v0_0_start, .int v0_0_step])), (h0_1, .inr (0, [.ref h0_1_0, .int u2.1])), (h0_1_0, .inl (c0_1_0, 600, .inl u2.2))]) hD hS hA [0, 1, 2, 3] rfl
      refine tw_callv (tw_runV (As := [.int p0]) (rest := []) ⟨hx, hb, hml, hown, htb⟩ (mt_Wr_writeUnsigned l hl9 dC dI sa h0 h0_0 h0_1 h0_1_0 H.size c0_1_0 v0_address v0_file v0_line v0_column v0_statement v0_0_base v0_0_range v0_0_low v0_0_start v0_0_step u2.1 u2.2 p0 _ _ hw) (cwV 1 htb (zgV zw_570 zw_572 zp_Wr_writeUnsigned zw_18 zw_573) rfl rfl rfl (by decide +kernel) ⟨(Nat.le_of_ble_eq_true rfl), (Nat.le_of_ble_eq_true rfl)⟩) ⟨zPx_blind, va_recv (ci := 6) (q0 := 0) hK hP rfl rfl, zPx_pre hZ hS hFc hPc hKc hDc⟩ rfl rfl hl.1 rfl (lv_room (Nat.le_of_ble_eq_true rfl)) zd_Wr_writeFile_18 ⟨(Nat.le_of_ble_eq_true rfl), (Nat.le_of_ble_eq_true rfl)⟩) hS (fun q _ h => hFc q h) hFc (fun q _ h => hFc q h) (fun E9 ce9 q9 u5 t H1 locs ht hvm hw hB hz1 hk1 hS hce hcv hcl => ?_) (fun u5 t H1 locs ht hvm hw hB hz1 hk1 hS => ?_)
      · obtain ⟨hE, hB⟩ := hB
        obtain ⟨hP1, hK1, hD1⟩ := hB
        rw [ht] at hP1
        have hK1 := va_K.moved hvm.symm hK1
        obtain ⟨hP, hD⟩ := va_join (wr := []) (w1 := [(h0, .inr (6, [.ref h0_0, .ref h0_1, .int v0_address, .int v0_file, .int v0_line, .int v0_column, .int v0_statement])), (h0_0, .inr (1, [.int v0_0_base, .int v0_0_range, .int v0_0_low, .int v0_0_start, .int v0_0_step])), (h0_1, .inr (0, [.ref h0_1_0, .int u5.2.1])), (h0_1_0, .inl (c0_1_0, 600, .inl u5.2.2))]) hP hD [0, 1, 2, 3] [] rfl rfl (by decide) (by decide) hk1 hFc hP1 hD1
        generalize H1 = H at hP hS hce ⊢
        have hP : va_P (dC, dI) zC [(h0, .inr (6, [.ref h0_0, .ref h0_1, .int v0_address, .int v0_file, .int v0_line, .int v0_column, .int v0_statement])), (h0_0, .inr (1, [.int v0_0_base, .int v0_0_range, .int v0_0_low, .int v0_0_start, .int v0_0_step])), (h0_1, .inr (0, [.ref h0_1_0, .int u5.2.1])), (h0_1_0, .inl (c0_1_0, 600, .inl u5.2.2))] H := hP
        have hD : va_D A [(h0, .inr (6, [.ref h0_0, .ref h0_1, .int v0_address, .int v0_file, .int v0_line, .int v0_column, .int v0_statement])), (h0_0, .inr (1, [.int v0_0_base, .int v0_0_range, .int v0_0_low, .int v0_0_start, .int v0_0_step])), (h0_1, .inr (0, [.ref h0_1_0, .int u5.2.1])), (h0_1_0, .inl (c0_1_0, 600, .inl u5.2.2))] := hD
        have hP9 := hP.sub (ws' := [(h0, .inr (6, [.ref h0_0, .ref h0_1, .int v0_address, .int v0_file, .int v0_line, .int v0_column, .int v0_statement])), (h0_0, .inr (1, [.int v0_0_base, .int v0_0_range, .int v0_0_low, .int v0_0_start, .int v0_0_step])), (h0_1, .inr (0, [.ref h0_1_0, .int u5.2.1])), (h0_1_0, .inl (c0_1_0, 600, .inl u5.2.2))]) [0, 1, 2, 3] rfl
        have hD9 := hD.sub (ws' := [(h0, .inr (6, [.ref h0_0, .ref h0_1, .int v0_address, .int v0_file, .int v0_line, .int v0_column, .int v0_statement])), (h0_0, .inr (1, [.int v0_0_base, .int v0_0_range, .int v0_0_low, .int v0_0_start, .int v0_0_step])), (h0_1, .inr (0, [.ref h0_1_0, .int u5.2.1])), (h0_1_0, .inl (c0_1_0, 600, .inl u5.2.2))]) [0, 1, 2, 3] (by decide) rfl
        have hK9 := hK.sub (tys' := [(c0_1_0, .int)]) [0] rfl
        exact tw_out (E := E9) (fun x hx => (hEx x hx).elim) hlocks hce hcv hcl (fun t ht ha => ⟨(u5.1, (v0_file, u5.2.1, u5.2.2)), hw, ⟨hE, by rw [ht]; exact hP9, va_K.moved ha hK9, hD9⟩, hS.F ht⟩) hS.2.2 (Nat.le_of_ble_eq_true rfl) (Nat.le_of_ble_eq_true rfl)
      · skip
        obtain ⟨hP1, hK1, hD1⟩ := hB
        rw [ht] at hP1
        have hK1 := va_K.moved hvm.symm hK1
        obtain ⟨hP, hD⟩ := va_join (wr := []) (w1 := [(h0, .inr (6, [.ref h0_0, .ref h0_1, .int v0_address, .int v0_file, .int v0_line, .int v0_column, .int v0_statement])), (h0_0, .inr (1, [.int v0_0_base, .int v0_0_range, .int v0_0_low, .int v0_0_start, .int v0_0_step])), (h0_1, .inr (0, [.ref h0_1_0, .int u5.1])), (h0_1_0, .inl (c0_1_0, 600, .inl u5.2))]) hP hD [0, 1, 2, 3] [] rfl rfl (by decide) (by decide) hk1 hFc hP1 hD1
        generalize H1 = H at hP hS ⊢
        have hP : va_P (dC, dI) zC [(h0, .inr (6, [.ref h0_0, .ref h0_1, .int v0_address, .int v0_file, .int v0_line, .int v0_column, .int v0_statement])), (h0_0, .inr (1, [.int v0_0_base, .int v0_0_range, .int v0_0_low, .int v0_0_start, .int v0_0_step])), (h0_1, .inr (0, [.ref h0_1_0, .int u5.1])), (h0_1_0, .inl (c0_1_0, 600, .inl u5.2))] H := hP
        have hD : va_D A [(h0, .inr (6, [.ref h0_0, .ref h0_1, .int v0_address, .int v0_file, .int v0_line, .int v0_column, .int v0_statement])), (h0_0, .inr (1, [.int v0_0_base, .int v0_0_range, .int v0_0_low, .int v0_0_start, .int v0_0_step])), (h0_1, .inr (0, [.ref h0_1_0, .int u5.1])), (h0_1_0, .inl (c0_1_0, 600, .inl u5.2))] := hD
        refine W.widen (k := 0) (n := 0) (Nat.le_of_ble_eq_true rfl) (Nat.le_of_ble_eq_true rfl) ?_
        refine lv_aload_n hx hb zd_Wr_writeFile_21 rfl (lv_at hl 0 rfl) ?_
        refine lv_iload_n hx hb zd_Wr_writeFile_22 rfl (lv_at hl 1 rfl) ?_
        refine va_put (D := (dC, dI)) (ci := 6) (v := .int p0) (ty := .int) (C := zr_6) (T := zt_6) (N := 7) hx hb htb zi_6 zf_6 zk_6 zn_6 hown hK hP hD hS 0 rfl rfl 3 (by decide) (htb _ zw_537) (fun _ h9 => h9) rfl (by decide +kernel) rfl rfl (Nat.le_of_ble_eq_true rfl) zd_Wr_writeFile_23 (fun H locs hP hD hS => ?_)
        have hP : va_P (dC, dI) zC [(h0, .inr (6, [.ref h0_0, .ref h0_1, .int v0_address, .int p0, .int v0_line, .int v0_column, .int v0_statement])), (h0_0, .inr (1, [.int v0_0_base, .int v0_0_range, .int v0_0_low, .int v0_0_start, .int v0_0_step])), (h0_1, .inr (0, [.ref h0_1_0, .int u5.1])), (h0_1_0, .inl (c0_1_0, 600, .inl u5.2))] H := hP
        have hD : va_D A [(h0, .inr (6, [.ref h0_0, .ref h0_1, .int v0_address, .int p0, .int v0_line, .int v0_column, .int v0_statement])), (h0_0, .inr (1, [.int v0_0_base, .int v0_0_range, .int v0_0_low, .int v0_0_start, .int v0_0_step])), (h0_1, .inr (0, [.ref h0_1_0, .int u5.1])), (h0_1_0, .inl (c0_1_0, 600, .inl u5.2))] := hD
        have hP9 := hP.sub (ws' := [(h0, .inr (6, [.ref h0_0, .ref h0_1, .int v0_address, .int p0, .int v0_line, .int v0_column, .int v0_statement])), (h0_0, .inr (1, [.int v0_0_base, .int v0_0_range, .int v0_0_low, .int v0_0_start, .int v0_0_step])), (h0_1, .inr (0, [.ref h0_1_0, .int u5.1])), (h0_1_0, .inl (c0_1_0, 600, .inl u5.2))]) [0, 1, 2, 3] rfl
        have hD9 := hD.sub (ws' := [(h0, .inr (6, [.ref h0_0, .ref h0_1, .int v0_address, .int p0, .int v0_line, .int v0_column, .int v0_statement])), (h0_0, .inr (1, [.int v0_0_base, .int v0_0_range, .int v0_0_low, .int v0_0_start, .int v0_0_step])), (h0_1, .inr (0, [.ref h0_1_0, .int u5.1])), (h0_1_0, .inl (c0_1_0, 600, .inl u5.2))]) [0, 1, 2, 3] (by decide) rfl
        have hK9 := hK.sub (tys' := [(c0_1_0, .int)]) [0] rfl
        refine W.widen (k := 0) (n := 0) (Nat.le_of_ble_eq_true rfl) (Nat.le_of_ble_eq_true rfl) ?_
        refine tw_ret ?_
        exact W.vret hx hb hr (fun t ht hW => ⟨⟨(p0, u5.1, u5.2), rfl, hw, by rw [ht]; exact hP9, va_K.moved hW.alike hK9, hD9⟩, hS.F ht⟩) hS.2.2 zd_Wr_writeFile_26
abbrev zo_Wr_writeColumn : Room := { frames := 8, cells := 1, slots := 6, locals := 134 }
abbrev zb_Wr_writeColumn (dC : Nat → ClassId) (dI : Nat → Nat → Nat) (A : Nat → Prop) (h0 h0_0 h0_1 h0_1_0 : Nat) (c0_1_0 : ClassId) (v0_address : Int32) (v0_file : Int32) (v0_line : Int32) (v0_statement : Int32) (v0_0_base : Int32) (v0_0_range : Int32) (v0_0_low : Int32) (v0_0_start : Int32) (v0_0_step : Int32) (u : Int32 × Int32 × (Nat → Int32)) (t : State) : Prop := va_P (dC, dI) zC [(h0, .inr (6, [.ref h0_0, .ref h0_1, .int v0_address, .int v0_file, .int v0_line, .int u.1, .int v0_statement])), (h0_0, .inr (1, [.int v0_0_base, .int v0_0_range, .int v0_0_low, .int v0_0_start, .int v0_0_step])), (h0_1, .inr (0, [.ref h0_1_0, .int u.2.1])), (h0_1_0, .inl (c0_1_0, 600, .inl u.2.2))] t.heap ∧ va_K (dC, dI) zC [(c0_1_0, .int)] t ∧ va_D A [(h0, .inr (6, [.ref h0_0, .ref h0_1, .int v0_address, .int v0_file, .int v0_line, .int u.1, .int v0_statement])), (h0_0, .inr (1, [.int v0_0_base, .int v0_0_range, .int v0_0_low, .int v0_0_start, .int v0_0_step])), (h0_1, .inr (0, [.ref h0_1_0, .int u.2.1])), (h0_1_0, .inl (c0_1_0, 600, .inl u.2.2))]
abbrev zx_Wr_writeColumn (dC : Nat → ClassId) (dI : Nat → Nat → Nat) (A : Nat → Prop) (h0 h0_0 h0_1 h0_1_0 : Nat) (c0_1_0 : ClassId) (v0_address : Int32) (v0_file : Int32) (v0_line : Int32) (v0_statement : Int32) (v0_0_base : Int32) (v0_0_range : Int32) (v0_0_low : Int32) (v0_0_start : Int32) (v0_0_step : Int32) (E : String) (u : Nat × (Int32 × Int32 × (Nat → Int32))) (t : State) : Prop := E = zE u.1 ∧ zb_Wr_writeColumn dC dI A h0 h0_0 h0_1 h0_1_0 c0_1_0 v0_address v0_file v0_line v0_statement v0_0_base v0_0_range v0_0_low v0_0_start v0_0_step u.2 t
set_option maxHeartbeats 4000000 in
set_option maxRecDepth 100000 in
theorem mt_Wr_writeColumn (l : Launch) (hl9 : l.stackTraces = false) (dC : Nat → ClassId) (dI : Nat → Nat → Nat) (sa : Nat → Nat) (h0 h0_0 h0_1 h0_1_0 sz : Nat) (c0_1_0 : ClassId) (v0_address : Int32) (v0_file : Int32) (v0_line : Int32) (v0_column : Int32) (v0_statement : Int32) (v0_0_base : Int32) (v0_0_range : Int32) (v0_0_low : Int32) (v0_0_start : Int32) (v0_0_step : Int32) (v0_1_size : Int32) (g0_1_values : Nat → Int32) (p0 : Int32) (post : (Int32 × Int32 × (Nat → Int32)) → Prop) (postX : Nat × (Int32 × Int32 × (Nat → Int32)) → Prop) (hw : wp_Wr_writeColumn v0_column v0_1_size g0_1_values p0 post postX) : tw_Met l zy_Wr_writeColumn zs_Wr_writeColumn zo_Wr_writeColumn (zPx dC dI sa [.ref h0, .int p0] sz [(h0, .inr (6, [.ref h0_0, .ref h0_1, .int v0_address, .int v0_file, .int v0_line, .int v0_column, .int v0_statement])), (h0_0, .inr (1, [.int v0_0_base, .int v0_0_range, .int v0_0_low, .int v0_0_start, .int v0_0_step])), (h0_1, .inr (0, [.ref h0_1_0, .int v0_1_size])), (h0_1_0, .inl (c0_1_0, 600, .inl g0_1_values))] [(c0_1_0, .int)]) (va_Qv (fun (u : Int32 × Int32 × (Nat → Int32)) => post u) (zb_Wr_writeColumn dC dI (va_A [(h0, .inr (6, [.ref h0_0, .ref h0_1, .int v0_address, .int v0_file, .int v0_line, .int v0_column, .int v0_statement])), (h0_0, .inr (1, [.int v0_0_base, .int v0_0_range, .int v0_0_low, .int v0_0_start, .int v0_0_step])), (h0_1, .inr (0, [.ref h0_1_0, .int v0_1_size])), (h0_1_0, .inl (c0_1_0, 600, .inl g0_1_values))] sz) h0 h0_0 h0_1 h0_1_0 c0_1_0 v0_address v0_file v0_line v0_statement v0_0_base v0_0_range v0_0_low v0_0_start v0_0_step) (va_A [(h0, .inr (6, [.ref h0_0, .ref h0_1, .int v0_address, .int v0_file, .int v0_line, .int v0_column, .int v0_statement])), (h0_0, .inr (1, [.int v0_0_base, .int v0_0_range, .int v0_0_low, .int v0_0_start, .int v0_0_step])), (h0_1, .inr (0, [.ref h0_1_0, .int v0_1_size])), (h0_1_0, .inl (c0_1_0, 600, .inl g0_1_values))] sz)) (vx_X (fun (u : Nat × (Int32 × Int32 × (Nat → Int32))) => postX u) (zx_Wr_writeColumn dC dI (va_A [(h0, .inr (6, [.ref h0_0, .ref h0_1, .int v0_address, .int v0_file, .int v0_line, .int v0_column, .int v0_statement])), (h0_0, .inr (1, [.int v0_0_base, .int v0_0_range, .int v0_0_low, .int v0_0_start, .int v0_0_step])), (h0_1, .inr (0, [.ref h0_1_0, .int v0_1_size])), (h0_1_0, .inl (c0_1_0, 600, .inl g0_1_values))] sz) h0 h0_0 h0_1 h0_1_0 c0_1_0 v0_address v0_file v0_line v0_statement v0_0_base v0_0_range v0_0_low v0_0_start v0_0_step) (va_A [(h0, .inr (6, [.ref h0_0, .ref h0_1, .int v0_address, .int v0_file, .int v0_line, .int v0_column, .int v0_statement])), (h0_0, .inr (1, [.int v0_0_base, .int v0_0_range, .int v0_0_low, .int v0_0_start, .int v0_0_step])), (h0_1, .inr (0, [.ref h0_1_0, .int v0_1_size])), (h0_1_0, .inl (c0_1_0, 600, .inl g0_1_values))] sz)) 0 0 1 6 (va_A [(h0, .inr (6, [.ref h0_0, .ref h0_1, .int v0_address, .int v0_file, .int v0_line, .int v0_column, .int v0_statement])), (h0_0, .inr (1, [.int v0_0_base, .int v0_0_range, .int v0_0_low, .int v0_0_start, .int v0_0_step])), (h0_1, .inr (0, [.ref h0_1_0, .int v0_1_size])), (h0_1_0, .inl (c0_1_0, 600, .inl g0_1_values))] sz) := by
  unfold wp_Wr_writeColumn at hw
  refine tw_ofW (cc := zc_Wr_writeColumn) (maxL := 2) (ret := none) (by decide) rfl ?_
  intro p e s m args below meth c s₁ B hml hEx hv
  obtain ⟨rfl, hsz, hP, hK, hD0, hZ⟩ := hv
  have hx := B.exec
  have hb := B.bytes
  have hr := B.returns
  have hts := atoms_spec (ws := zs_Wr_writeColumn) B.pre
  have htb := fun w (h : w ∈ zB) => hts w (List.mem_cons_of_mem _ h)
  have hown : s.vm.findClass zr_6 = some m.cls := findClass_of_methodNamed B.named
  have hlocks := B.notSynchronized
  subst hsz
  have hD := hD0.self (sz := s.heap.size)
  generalize hAe : va_A [(h0, .inr (6, [.ref h0_0, .ref h0_1, .int v0_address, .int v0_file, .int v0_line, .int v0_column, .int v0_statement])), (h0_0, .inr (1, [.int v0_0_base, .int v0_0_range, .int v0_0_low, .int v0_0_start, .int v0_0_step])), (h0_1, .inr (0, [.ref h0_1_0, .int v0_1_size])), (h0_1_0, .inl (c0_1_0, 600, .inl g0_1_values))] s.heap.size = A at hD hZ ⊢
  have hA : ∀ q : Nat, s.heap.size ≤ q → A q := fun q h => by rw [← hAe]; exact Or.inr h
  clear hAe hD0
  have hl := lv_entry ([.ref h0, .int p0]) (n := 2) (Nat.le_of_ble_eq_true rfl)
  rw [lg_entry_eq]
  generalize (lg_sl ([.ref h0, .int p0]) ++ List.replicate (2 - (lg_sl ([.ref h0, .int p0])).length) Slot.unset).toArray = ls at hl ⊢
  have hl : lv_has ls 2 [(0, .ref h0), (1, .int p0)] := hl
  obtain ⟨H, hH⟩ : ∃ H, H = s.heap := ⟨_, rfl⟩
  have hS : va_S A s.heap H [] := by rw [hH]; exact va_S.rf
  rw [← hH] at hP ⊢
  refine lv_iload_n hx hb zd_Wr_writeColumn_0 rfl (lv_at hl 1 rfl) ?_
  refine lv_aload_n hx hb zd_Wr_writeColumn_1 rfl (lv_at hl 0 rfl) ?_
  refine va_get (D := (dC, dI)) (ci := 6) (v := .int v0_column) (C := zr_6) (T := zt_6) (N := 7) hx hb htb zi_6 hown hK hP 0 rfl rfl 5 (by decide) (htb _ zw_539) (fun _ h9 => h9) rfl zd_Wr_writeColumn_2 ?_
  refine lv_icmp_eq (tgt := 26) hx hb zd_Wr_writeColumn_5 (by decide) (fun h1 => ?_) (fun h1 => ?_)
  · have hw := hw.1 h1
    have hP9 := hP.sub (ws' := [(h0, .inr (6, [.ref h0_0, .ref h0_1, .int v0_address, .int v0_file, .int v0_line, .int v0_column, .int v0_statement])), (h0_0, .inr (1, [.int v0_0_base, .int v0_0_range, .int v0_0_low, .int v0_0_start, .int v0_0_step])), (h0_1, .inr (0, [.ref h0_1_0, .int v0_1_size])), (h0_1_0, .inl (c0_1_0, 600, .inl g0_1_values))]) [0, 1, 2, 3] rfl
    have hD9 := hD.sub (ws' := [(h0, .inr (6, [.ref h0_0, .ref h0_1, .int v0_address, .int v0_file, .int v0_line, .int v0_column, .int v0_statement])), (h0_0, .inr (1, [.int v0_0_base, .int v0_0_range, .int v0_0_low, .int v0_0_start, .int v0_0_step])), (h0_1, .inr (0, [.ref h0_1_0, .int v0_1_size])), (h0_1_0, .inl (c0_1_0, 600, .inl g0_1_values))]) [0, 1, 2, 3] (by decide) rfl
    have hK9 := hK.sub (tys' := [(c0_1_0, .int)]) [0] rfl
    refine W.widen (k := 0) (n := 0) (Nat.le_of_ble_eq_true rfl) (Nat.le_of_ble_eq_true rfl) ?_
    refine tw_ret ?_
    exact W.vret hx hb hr (fun t ht hW => ⟨⟨(v0_column, v0_1_size, g0_1_values), rfl, hw, by rw [ht]; exact hP9, va_K.moved hW.alike hK9, hD9⟩, hS.F ht⟩) hS.2.2 zd_Wr_writeColumn_26
  · have hw := hw.2 h1
    refine lv_aload_n hx hb zd_Wr_writeColumn_8 rfl (lv_at hl 0 rfl) ?_
    refine va_get (D := (dC, dI)) (ci := 6) (v := .ref h0_1) (C := zr_6) (T := zt_6) (N := 7) hx hb htb zi_6 hown hK hP 0 rfl rfl 1 (by decide) (htb _ zw_535) (fun _ h9 => h9) rfl zd_Wr_writeColumn_9 ?_
    refine lv_iconst (v := 5) hx hb zd_Wr_writeColumn_12 (by decide) ?_
    have hPc := hP.sub (ws' := [(h0_1, .inr (0, [.ref h0_1_0, .int v0_1_size])), (h0_1_0, .inl (c0_1_0, 600, .inl g0_1_values))]) [2, 3] rfl
    have hDc := hD.sub (ws' := [(h0_1, .inr (0, [.ref h0_1_0, .int v0_1_size])), (h0_1_0, .inl (c0_1_0, 600, .inl g0_1_values))]) [2, 3] (by decide) rfl
    have hKc := hK.sub (tys' := [(c0_1_0, .int)]) [0] rfl
    have hFc := va_free (wc := [(h0_1, .inr (0, [.ref h0_1_0, .int v0_1_size])), (h0_1_0, .inl (c0_1_0, 600, .inl g0_1_values))]) hD hS hA [2, 3] rfl
    refine tw_callv (tw_runV (As := [.int 5]) (rest := []) ⟨hx, hb, hml, hown, htb⟩ (mt_By_append l hl9 dC dI sa h0_1 h0_1_0 H.size c0_1_0 v0_1_size g0_1_values 5 _ _ hw) (cwV 1 htb (zgV zw_565 zw_164 zw_165 zw_3 zw_166) rfl rfl rfl (by decide +kernel) ⟨(Nat.le_of_ble_eq_true rfl), (Nat.le_of_ble_eq_true rfl)⟩) ⟨zPx_blind, va_recv (ci := 0) (q0 := 2) hK hP rfl rfl, zPx_pre hZ hS hFc hPc hKc hDc⟩ rfl rfl hl.1 rfl (lv_room (Nat.le_of_ble_eq_true rfl)) zd_Wr_writeColumn_13 ⟨(Nat.le_of_ble_eq_true rfl), (Nat.le_of_ble_eq_true rfl)⟩) hS (fun q _ h => hFc q h) hFc (fun q _ h => hFc q h) (fun E9 ce9 q9 u2 t H1 locs ht hvm hw hB hz1 hk1 hS hce hcv hcl => ?_) (fun u2 t H1 locs ht hvm hw hB hz1 hk1 hS => ?_)
    · obtain ⟨hE, hB⟩ := hB
      obtain ⟨hP1, hK1, hD1⟩ := hB
      rw [ht] at hP1
      have hK1 := va_K.moved hvm.symm hK1
      obtain ⟨hP, hD⟩ := va_join (wr := [(h0, .inr (6, [.ref h0_0, .ref h0_1, .int v0_address, .int v0_file, .int v0_line, .int v0_column, .int v0_statement])), (h0_0, .inr (1, [.int v0_0_base, .int v0_0_range, .int v0_0_low, .int v0_0_start, .int v0_0_step]))]) (w1 := [(h0_1, .inr (0, [.ref h0_1_0, .int u2.2.1])), (h0_1_0, .inl (c0_1_0, 600, .inl u2.2.2))]) hP hD [2, 3] [0, 1] rfl rfl (by decide) (by decide) hk1 hFc hP1 hD1
      generalize H1 = H at hP hS hce ⊢
      have hP : va_P (dC, dI) zC [(h0, .inr (6, [.ref h0_0, .ref h0_1, .int v0_address, .int v0_file, .int v0_line, .int v0_column, .int v0_statement])), (h0_0, .inr (1, [.int v0_0_base, .int v0_0_range, .int v0_0_low, .int v0_0_start, .int v0_0_step])), (h0_1, .inr (0, [.ref h0_1_0, .int u2.2.1])), (h0_1_0, .inl (c0_1_0, 600, .inl u2.2.2))] H := hP
      have hD : va_D A [(h0, .inr (6, [.ref h0_0, .ref h0_1, .int v0_address, .int v0_file, .int v0_line, .int v0_column, .int v0_statement])), (h0_0, .inr (1, [.int v0_0_base, .int v0_0_range, .int v0_0_low, .int v0_0_start, .int v0_0_step])), (h0_1, .inr (0, [.ref h0_1_0, .int u2.2.1])), (h0_1_0, .inl (c0_1_0, 600, .inl u2.2.2))] := hD
      have hP9 := hP.sub (ws' := [(h0, .inr (6, [.ref h0_0, .ref h0_1, .int v0_address, .int v0_file, .int v0_line, .int v0_column, .int v0_statement])), (h0_0, .inr (1, [.int v0_0_base, .int v0_0_range, .int v0_0_low, .int v0_0_start, .int v0_0_step])), (h0_1, .inr (0, [.ref h0_1_0, .int u2.2.1])), (h0_1_0, .inl (c0_1_0, 600, .inl u2.2.2))]) [0, 1, 2, 3] rfl
      have hD9 := hD.sub (ws' := [(h0, .inr (6, [.ref h0_0, .ref h0_1, .int v0_address, .int v0_file, .int v0_line, .int v0_column, .int v0_statement])), (h0_0, .inr (1, [.int v0_0_base, .int v0_0_range, .int v0_0_low, .int v0_0_start, .int v0_0_step])), (h0_1, .inr (0, [.ref h0_1_0, .int u2.2.1])), (h0_1_0, .inl (c0_1_0, 600, .inl u2.2.2))]) [0, 1, 2, 3] (by decide) rfl
      have hK9 := hK.sub (tys' := [(c0_1_0, .int)]) [0] rfl
      exact tw_out (E := E9) (fun x hx => (hEx x hx).elim) hlocks hce hcv hcl (fun t ht ha => ⟨(u2.1, (v0_column, u2.2.1, u2.2.2)), hw, ⟨hE, by rw [ht]; exact hP9, va_K.moved ha hK9, hD9⟩, hS.F ht⟩) hS.2.2 (Nat.le_of_ble_eq_true rfl) (Nat.le_of_ble_eq_true rfl)
    · skip
      obtain ⟨hP1, hK1, hD1⟩ := hB
      rw [ht] at hP1
      have hK1 := va_K.moved hvm.symm hK1
      obtain ⟨hP, hD⟩ := va_join (wr := [(h0, .inr (6, [.ref h0_0, .ref h0_1, .int v0_address, .int v0_file, .int v0_line, .int v0_column, .int v0_statement])), (h0_0, .inr (1, [.int v0_0_base, .int v0_0_range, .int v0_0_low, .int v0_0_start, .int v0_0_step]))]) (w1 := [(h0_1, .inr (0, [.ref h0_1_0, .int u2.1])), (h0_1_0, .inl (c0_1_0, 600, .inl u2.2))]) hP hD [2, 3] [0, 1] rfl rfl (by decide) (by decide) hk1 hFc hP1 hD1
      generalize H1 = H at hP hS ⊢
      have hP : va_P (dC, dI) zC [(h0, .inr (6, [.ref h0_0, .ref h0_1, .int v0_address, .int v0_file, .int v0_line, .int v0_column, .int v0_statement])), (h0_0, .inr (1, [.int v0_0_base, .int v0_0_range, .int v0_0_low, .int v0_0_start, .int v0_0_step])), (h0_1, .inr (0, [.ref h0_1_0, .int u2.1])), (h0_1_0, .inl (c0_1_0, 600, .inl u2.2))] H := hP
      have hD : va_D A [(h0, .inr (6, [.ref h0_0, .ref h0_1, .int v0_address, .int v0_file, .int v0_line, .int v0_column, .int v0_statement])), (h0_0, .inr (1, [.int v0_0_base, .int v0_0_range, .int v0_0_low, .int v0_0_start, .int v0_0_step])), (h0_1, .inr (0, [.ref h0_1_0, .int u2.1])), (h0_1_0, .inl (c0_1_0, 600, .inl u2.2))] := hD
      refine W.widen (k := 0) (n := 0) (Nat.le_of_ble_eq_true rfl) (Nat.le_of_ble_eq_true rfl) ?_
      refine lv_aload_n hx hb zd_Wr_writeColumn_16 rfl (lv_at hl 0 rfl) ?_
      refine lv_iload_n hx hb zd_Wr_writeColumn_17 rfl (lv_at hl 1 rfl) ?_
      have hPc := hP.sub (ws' := [(h0, .inr (6, [.ref h0_0, .ref h0_1, .int v0_address, .int v0_file, .int v0_line, .int v0_column, .int v0_statement])), (h0_0, .inr (1, [.int v0_0_base, .int v0_0_range, .int v0_0_low, .int v0_0_start, .int v0_0_step])), (h0_1, .inr (0, [.ref h0_1_0, .int u2.1])), (h0_1_0, .inl (c0_1_0, 600, .inl u2.2))]) [0, 1, 2, 3] rfl
      have hDc := hD.sub (ws' := [(h0, .inr (6, [.ref h0_0, .ref h0_1, .int v0_address, .int v0_file, .int v0_line, .int v0_column, .int v0_statement])), (h0_0, .inr (1, [.int v0_0_base, .int v0_0_range, .int v0_0_low, .int v0_0_start, .int v0_0_step])), (h0_1, .inr (0, [.ref h0_1_0, .int u2.1])), (h0_1_0, .inl (c0_1_0, 600, .inl u2.2))]) [0, 1, 2, 3] (by decide) rfl
      have hKc := hK.sub (tys' := [(c0_1_0, .int)]) [0] rfl
      have hFc := va_free (wc := [(h0, .inr (6, [.ref h0_0, .ref h0_1, .int v0_address, .int v0_file, .int v0_line, .int v0_column, .int v0_statement])), (h0_0, .inr (1, [.int v0_0_base, .int v0_0_range, .int v0_0_low, .int v0_0_start, .int v0_0_step])), (h0_1, .inr (0, [.ref h0_1_0, .int u2.1])), (h0_1_0, .inl (c0_1_0, 600, .inl u2.2))]) hD hS hA [0, 1, 2, 3] rfl
      refine tw_callv (tw_runV (As := [.int p0]) (rest := []) ⟨hx, hb, hml, hown, htb⟩ (mt_Wr_writeUnsigned l hl9 dC dI sa h0 h0_0 h0_1 h0_1_0 H.size c0_1_0 v0_address v0_file v0_line v0_column v0_statement v0_0_base v0_0_range v0_0_low v0_0_start v0_0_step u2.1 u2.2 p0 _ _ hw) (cwV 1 htb (zgV zw_570 zw_572 zp_Wr_writeUnsigned zw_18 zw_573) rfl rfl rfl (by decide +kernel) ⟨(Nat.le_of_ble_eq_true rfl), (Nat.le_of_ble_eq_true rfl)⟩) ⟨zPx_blind, va_recv (ci := 6) (q0 := 0) hK hP rfl rfl, zPx_pre hZ hS hFc hPc hKc hDc⟩ rfl rfl hl.1 rfl (lv_room (Nat.le_of_ble_eq_true rfl)) zd_Wr_writeColumn_18 ⟨(Nat.le_of_ble_eq_true rfl), (Nat.le_of_ble_eq_true rfl)⟩) hS (fun q _ h => hFc q h) hFc (fun q _ h => hFc q h) (fun E9 ce9 q9 u5 t H1 locs ht hvm hw hB hz1 hk1 hS hce hcv hcl => ?_) (fun u5 t H1 locs ht hvm hw hB hz1 hk1 hS => ?_)
      · obtain ⟨hE, hB⟩ := hB
        obtain ⟨hP1, hK1, hD1⟩ := hB
        rw [ht] at hP1
        have hK1 := va_K.moved hvm.symm hK1
        obtain ⟨hP, hD⟩ := va_join (wr := []) (w1 := [(h0, .inr (6, [.ref h0_0, .ref h0_1, .int v0_address, .int v0_file, .int v0_line, .int v0_column, .int v0_statement])), (h0_0, .inr (1, [.int v0_0_base, .int v0_0_range, .int v0_0_low, .int v0_0_start, .int v0_0_step])), (h0_1, .inr (0, [.ref h0_1_0, .int u5.2.1])), (h0_1_0, .inl (c0_1_0, 600, .inl u5.2.2))]) hP hD [0, 1, 2, 3] [] rfl rfl (by decide) (by decide) hk1 hFc hP1 hD1
        generalize H1 = H at hP hS hce ⊢
        have hP : va_P (dC, dI) zC [(h0, .inr (6, [.ref h0_0, .ref h0_1, .int v0_address, .int v0_file, .int v0_line, .int v0_column, .int v0_statement])), (h0_0, .inr (1, [.int v0_0_base, .int v0_0_range, .int v0_0_low, .int v0_0_start, .int v0_0_step])), (h0_1, .inr (0, [.ref h0_1_0, .int u5.2.1])), (h0_1_0, .inl (c0_1_0, 600, .inl u5.2.2))] H := hP
        have hD : va_D A [(h0, .inr (6, [.ref h0_0, .ref h0_1, .int v0_address, .int v0_file, .int v0_line, .int v0_column, .int v0_statement])), (h0_0, .inr (1, [.int v0_0_base, .int v0_0_range, .int v0_0_low, .int v0_0_start, .int v0_0_step])), (h0_1, .inr (0, [.ref h0_1_0, .int u5.2.1])), (h0_1_0, .inl (c0_1_0, 600, .inl u5.2.2))] := hD
        have hP9 := hP.sub (ws' := [(h0, .inr (6, [.ref h0_0, .ref h0_1, .int v0_address, .int v0_file, .int v0_line, .int v0_column, .int v0_statement])), (h0_0, .inr (1, [.int v0_0_base, .int v0_0_range, .int v0_0_low, .int v0_0_start, .int v0_0_step])), (h0_1, .inr (0, [.ref h0_1_0, .int u5.2.1])), (h0_1_0, .inl (c0_1_0, 600, .inl u5.2.2))]) [0, 1, 2, 3] rfl
        have hD9 := hD.sub (ws' := [(h0, .inr (6, [.ref h0_0, .ref h0_1, .int v0_address, .int v0_file, .int v0_line, .int v0_column, .int v0_statement])), (h0_0, .inr (1, [.int v0_0_base, .int v0_0_range, .int v0_0_low, .int v0_0_start, .int v0_0_step])), (h0_1, .inr (0, [.ref h0_1_0, .int u5.2.1])), (h0_1_0, .inl (c0_1_0, 600, .inl u5.2.2))]) [0, 1, 2, 3] (by decide) rfl
        have hK9 := hK.sub (tys' := [(c0_1_0, .int)]) [0] rfl
        exact tw_out (E := E9) (fun x hx => (hEx x hx).elim) hlocks hce hcv hcl (fun t ht ha => ⟨(u5.1, (v0_column, u5.2.1, u5.2.2)), hw, ⟨hE, by rw [ht]; exact hP9, va_K.moved ha hK9, hD9⟩, hS.F ht⟩) hS.2.2 (Nat.le_of_ble_eq_true rfl) (Nat.le_of_ble_eq_true rfl)
      · skip
        obtain ⟨hP1, hK1, hD1⟩ := hB
        rw [ht] at hP1
        have hK1 := va_K.moved hvm.symm hK1
        obtain ⟨hP, hD⟩ := va_join (wr := []) (w1 := [(h0, .inr (6, [.ref h0_0, .ref h0_1, .int v0_address, .int v0_file, .int v0_line, .int v0_column, .int v0_statement])), (h0_0, .inr (1, [.int v0_0_base, .int v0_0_range, .int v0_0_low, .int v0_0_start, .int v0_0_step])), (h0_1, .inr (0, [.ref h0_1_0, .int u5.1])), (h0_1_0, .inl (c0_1_0, 600, .inl u5.2))]) hP hD [0, 1, 2, 3] [] rfl rfl (by decide) (by decide) hk1 hFc hP1 hD1
        generalize H1 = H at hP hS ⊢
        have hP : va_P (dC, dI) zC [(h0, .inr (6, [.ref h0_0, .ref h0_1, .int v0_address, .int v0_file, .int v0_line, .int v0_column, .int v0_statement])), (h0_0, .inr (1, [.int v0_0_base, .int v0_0_range, .int v0_0_low, .int v0_0_start, .int v0_0_step])), (h0_1, .inr (0, [.ref h0_1_0, .int u5.1])), (h0_1_0, .inl (c0_1_0, 600, .inl u5.2))] H := hP
        have hD : va_D A [(h0, .inr (6, [.ref h0_0, .ref h0_1, .int v0_address, .int v0_file, .int v0_line, .int v0_column, .int v0_statement])), (h0_0, .inr (1, [.int v0_0_base, .int v0_0_range, .int v0_0_low, .int v0_0_start, .int v0_0_step])), (h0_1, .inr (0, [.ref h0_1_0, .int u5.1])), (h0_1_0, .inl (c0_1_0, 600, .inl u5.2))] := hD
        refine W.widen (k := 0) (n := 0) (Nat.le_of_ble_eq_true rfl) (Nat.le_of_ble_eq_true rfl) ?_
        refine lv_aload_n hx hb zd_Wr_writeColumn_21 rfl (lv_at hl 0 rfl) ?_
        refine lv_iload_n hx hb zd_Wr_writeColumn_22 rfl (lv_at hl 1 rfl) ?_
        refine va_put (D := (dC, dI)) (ci := 6) (v := .int p0) (ty := .int) (C := zr_6) (T := zt_6) (N := 7) hx hb htb zi_6 zf_6 zk_6 zn_6 hown hK hP hD hS 0 rfl rfl 5 (by decide) (htb _ zw_539) (fun _ h9 => h9) rfl (by decide +kernel) rfl rfl (Nat.le_of_ble_eq_true rfl) zd_Wr_writeColumn_23 (fun H locs hP hD hS => ?_)
        have hP : va_P (dC, dI) zC [(h0, .inr (6, [.ref h0_0, .ref h0_1, .int v0_address, .int v0_file, .int v0_line, .int p0, .int v0_statement])), (h0_0, .inr (1, [.int v0_0_base, .int v0_0_range, .int v0_0_low, .int v0_0_start, .int v0_0_step])), (h0_1, .inr (0, [.ref h0_1_0, .int u5.1])), (h0_1_0, .inl (c0_1_0, 600, .inl u5.2))] H := hP
        have hD : va_D A [(h0, .inr (6, [.ref h0_0, .ref h0_1, .int v0_address, .int v0_file, .int v0_line, .int p0, .int v0_statement])), (h0_0, .inr (1, [.int v0_0_base, .int v0_0_range, .int v0_0_low, .int v0_0_start, .int v0_0_step])), (h0_1, .inr (0, [.ref h0_1_0, .int u5.1])), (h0_1_0, .inl (c0_1_0, 600, .inl u5.2))] := hD
        have hP9 := hP.sub (ws' := [(h0, .inr (6, [.ref h0_0, .ref h0_1, .int v0_address, .int v0_file, .int v0_line, .int p0, .int v0_statement])), (h0_0, .inr (1, [.int v0_0_base, .int v0_0_range, .int v0_0_low, .int v0_0_start, .int v0_0_step])), (h0_1, .inr (0, [.ref h0_1_0, .int u5.1])), (h0_1_0, .inl (c0_1_0, 600, .inl u5.2))]) [0, 1, 2, 3] rfl
        have hD9 := hD.sub (ws' := [(h0, .inr (6, [.ref h0_0, .ref h0_1, .int v0_address, .int v0_file, .int v0_line, .int p0, .int v0_statement])), (h0_0, .inr (1, [.int v0_0_base, .int v0_0_range, .int v0_0_low, .int v0_0_start, .int v0_0_step])), (h0_1, .inr (0, [.ref h0_1_0, .int u5.1])), (h0_1_0, .inl (c0_1_0, 600, .inl u5.2))]) [0, 1, 2, 3] (by decide) rfl
        have hK9 := hK.sub (tys' := [(c0_1_0, .int)]) [0] rfl
        refine W.widen (k := 0) (n := 0) (Nat.le_of_ble_eq_true rfl) (Nat.le_of_ble_eq_true rfl) ?_
        refine tw_ret ?_
        exact W.vret hx hb hr (fun t ht hW => ⟨⟨(p0, u5.1, u5.2), rfl, hw, by rw [ht]; exact hP9, va_K.moved hW.alike hK9, hD9⟩, hS.F ht⟩) hS.2.2 zd_Wr_writeColumn_26
abbrev zo_Wr_writeStatement : Room := { frames := 7, cells := 1, slots := 6, locals := 111 }
abbrev zb_Wr_writeStatement (dC : Nat → ClassId) (dI : Nat → Nat → Nat) (A : Nat → Prop) (h0 h0_0 h0_1 h0_1_0 : Nat) (c0_1_0 : ClassId) (v0_address : Int32) (v0_file : Int32) (v0_line : Int32) (v0_column : Int32) (v0_0_base : Int32) (v0_0_range : Int32) (v0_0_low : Int32) (v0_0_start : Int32) (v0_0_step : Int32) (u : Int32 × Int32 × (Nat → Int32)) (t : State) : Prop := va_P (dC, dI) zC [(h0, .inr (6, [.ref h0_0, .ref h0_1, .int v0_address, .int v0_file, .int v0_line, .int v0_column, .int u.1])), (h0_0, .inr (1, [.int v0_0_base, .int v0_0_range, .int v0_0_low, .int v0_0_start, .int v0_0_step])), (h0_1, .inr (0, [.ref h0_1_0, .int u.2.1])), (h0_1_0, .inl (c0_1_0, 600, .inl u.2.2))] t.heap ∧ va_K (dC, dI) zC [(c0_1_0, .int)] t ∧ va_D A [(h0, .inr (6, [.ref h0_0, .ref h0_1, .int v0_address, .int v0_file, .int v0_line, .int v0_column, .int u.1])), (h0_0, .inr (1, [.int v0_0_base, .int v0_0_range, .int v0_0_low, .int v0_0_start, .int v0_0_step])), (h0_1, .inr (0, [.ref h0_1_0, .int u.2.1])), (h0_1_0, .inl (c0_1_0, 600, .inl u.2.2))]
abbrev zx_Wr_writeStatement (dC : Nat → ClassId) (dI : Nat → Nat → Nat) (A : Nat → Prop) (h0 h0_0 h0_1 h0_1_0 : Nat) (c0_1_0 : ClassId) (v0_address : Int32) (v0_file : Int32) (v0_line : Int32) (v0_column : Int32) (v0_0_base : Int32) (v0_0_range : Int32) (v0_0_low : Int32) (v0_0_start : Int32) (v0_0_step : Int32) (E : String) (u : Nat × (Int32 × Int32 × (Nat → Int32))) (t : State) : Prop := E = zE u.1 ∧ zb_Wr_writeStatement dC dI A h0 h0_0 h0_1 h0_1_0 c0_1_0 v0_address v0_file v0_line v0_column v0_0_base v0_0_range v0_0_low v0_0_start v0_0_step u.2 t
set_option maxHeartbeats 4000000 in
set_option maxRecDepth 100000 in
theorem mt_Wr_writeStatement (l : Launch) (hl9 : l.stackTraces = false) (dC : Nat → ClassId) (dI : Nat → Nat → Nat) (sa : Nat → Nat) (h0 h0_0 h0_1 h0_1_0 sz : Nat) (c0_1_0 : ClassId) (v0_address : Int32) (v0_file : Int32) (v0_line : Int32) (v0_column : Int32) (v0_statement : Int32) (v0_0_base : Int32) (v0_0_range : Int32) (v0_0_low : Int32) (v0_0_start : Int32) (v0_0_step : Int32) (v0_1_size : Int32) (g0_1_values : Nat → Int32) (p0 : Int32) (post : (Int32 × Int32 × (Nat → Int32)) → Prop) (postX : Nat × (Int32 × Int32 × (Nat → Int32)) → Prop) (hw : wp_Wr_writeStatement v0_statement v0_1_size g0_1_values p0 post postX) : tw_Met l zy_Wr_writeStatement zs_Wr_writeStatement zo_Wr_writeStatement (zPx dC dI sa [.ref h0, .int p0] sz [(h0, .inr (6, [.ref h0_0, .ref h0_1, .int v0_address, .int v0_file, .int v0_line, .int v0_column, .int v0_statement])), (h0_0, .inr (1, [.int v0_0_base, .int v0_0_range, .int v0_0_low, .int v0_0_start, .int v0_0_step])), (h0_1, .inr (0, [.ref h0_1_0, .int v0_1_size])), (h0_1_0, .inl (c0_1_0, 600, .inl g0_1_values))] [(c0_1_0, .int)]) (va_Qv (fun (u : Int32 × Int32 × (Nat → Int32)) => post u) (zb_Wr_writeStatement dC dI (va_A [(h0, .inr (6, [.ref h0_0, .ref h0_1, .int v0_address, .int v0_file, .int v0_line, .int v0_column, .int v0_statement])), (h0_0, .inr (1, [.int v0_0_base, .int v0_0_range, .int v0_0_low, .int v0_0_start, .int v0_0_step])), (h0_1, .inr (0, [.ref h0_1_0, .int v0_1_size])), (h0_1_0, .inl (c0_1_0, 600, .inl g0_1_values))] sz) h0 h0_0 h0_1 h0_1_0 c0_1_0 v0_address v0_file v0_line v0_column v0_0_base v0_0_range v0_0_low v0_0_start v0_0_step) (va_A [(h0, .inr (6, [.ref h0_0, .ref h0_1, .int v0_address, .int v0_file, .int v0_line, .int v0_column, .int v0_statement])), (h0_0, .inr (1, [.int v0_0_base, .int v0_0_range, .int v0_0_low, .int v0_0_start, .int v0_0_step])), (h0_1, .inr (0, [.ref h0_1_0, .int v0_1_size])), (h0_1_0, .inl (c0_1_0, 600, .inl g0_1_values))] sz)) (vx_X (fun (u : Nat × (Int32 × Int32 × (Nat → Int32))) => postX u) (zx_Wr_writeStatement dC dI (va_A [(h0, .inr (6, [.ref h0_0, .ref h0_1, .int v0_address, .int v0_file, .int v0_line, .int v0_column, .int v0_statement])), (h0_0, .inr (1, [.int v0_0_base, .int v0_0_range, .int v0_0_low, .int v0_0_start, .int v0_0_step])), (h0_1, .inr (0, [.ref h0_1_0, .int v0_1_size])), (h0_1_0, .inl (c0_1_0, 600, .inl g0_1_values))] sz) h0 h0_0 h0_1 h0_1_0 c0_1_0 v0_address v0_file v0_line v0_column v0_0_base v0_0_range v0_0_low v0_0_start v0_0_step) (va_A [(h0, .inr (6, [.ref h0_0, .ref h0_1, .int v0_address, .int v0_file, .int v0_line, .int v0_column, .int v0_statement])), (h0_0, .inr (1, [.int v0_0_base, .int v0_0_range, .int v0_0_low, .int v0_0_start, .int v0_0_step])), (h0_1, .inr (0, [.ref h0_1_0, .int v0_1_size])), (h0_1_0, .inl (c0_1_0, 600, .inl g0_1_values))] sz)) 0 0 1 6 (va_A [(h0, .inr (6, [.ref h0_0, .ref h0_1, .int v0_address, .int v0_file, .int v0_line, .int v0_column, .int v0_statement])), (h0_0, .inr (1, [.int v0_0_base, .int v0_0_range, .int v0_0_low, .int v0_0_start, .int v0_0_step])), (h0_1, .inr (0, [.ref h0_1_0, .int v0_1_size])), (h0_1_0, .inl (c0_1_0, 600, .inl g0_1_values))] sz) := by
  unfold wp_Wr_writeStatement at hw
  refine tw_ofW (cc := zc_Wr_writeStatement) (maxL := 2) (ret := none) (by decide) rfl ?_
  intro p e s m args below meth c s₁ B hml hEx hv
  obtain ⟨rfl, hsz, hP, hK, hD0, hZ⟩ := hv
  have hx := B.exec
  have hb := B.bytes
  have hr := B.returns
  have hts := atoms_spec (ws := zs_Wr_writeStatement) B.pre
  have htb := fun w (h : w ∈ zB) => hts w (List.mem_cons_of_mem _ h)
  have hown : s.vm.findClass zr_6 = some m.cls := findClass_of_methodNamed B.named
  have hlocks := B.notSynchronized
  subst hsz
  have hD := hD0.self (sz := s.heap.size)
  generalize hAe : va_A [(h0, .inr (6, [.ref h0_0, .ref h0_1, .int v0_address, .int v0_file, .int v0_line, .int v0_column, .int v0_statement])), (h0_0, .inr (1, [.int v0_0_base, .int v0_0_range, .int v0_0_low, .int v0_0_start, .int v0_0_step])), (h0_1, .inr (0, [.ref h0_1_0, .int v0_1_size])), (h0_1_0, .inl (c0_1_0, 600, .inl g0_1_values))] s.heap.size = A at hD hZ ⊢
  have hA : ∀ q : Nat, s.heap.size ≤ q → A q := fun q h => by rw [← hAe]; exact Or.inr h
  clear hAe hD0
  have hl := lv_entry ([.ref h0, .int p0]) (n := 2) (Nat.le_of_ble_eq_true rfl)
  rw [lg_entry_eq]
  generalize (lg_sl ([.ref h0, .int p0]) ++ List.replicate (2 - (lg_sl ([.ref h0, .int p0])).length) Slot.unset).toArray = ls at hl ⊢
  have hl : lv_has ls 2 [(0, .ref h0), (1, .int p0)] := hl
  obtain ⟨H, hH⟩ : ∃ H, H = s.heap := ⟨_, rfl⟩
  have hS : va_S A s.heap H [] := by rw [hH]; exact va_S.rf
  rw [← hH] at hP ⊢
  refine lv_iload_n hx hb zd_Wr_writeStatement_0 rfl (lv_at hl 1 rfl) ?_
  refine lv_aload_n hx hb zd_Wr_writeStatement_1 rfl (lv_at hl 0 rfl) ?_
  refine va_get (D := (dC, dI)) (ci := 6) (v := .int v0_statement) (C := zr_6) (T := zt_6) (N := 7) hx hb htb zi_6 hown hK hP 0 rfl rfl 6 (by decide) (htb _ zw_540) (fun _ h9 => h9) rfl zd_Wr_writeStatement_2 ?_
  refine lv_icmp_eq (tgt := 22) hx hb zd_Wr_writeStatement_5 (by decide) (fun h1 => ?_) (fun h1 => ?_)
  · have hw := hw.1 h1
    have hP9 := hP.sub (ws' := [(h0, .inr (6, [.ref h0_0, .ref h0_1, .int v0_address, .int v0_file, .int v0_line, .int v0_column, .int v0_statement])), (h0_0, .inr (1, [.int v0_0_base, .int v0_0_range, .int v0_0_low, .int v0_0_start, .int v0_0_step])), (h0_1, .inr (0, [.ref h0_1_0, .int v0_1_size])), (h0_1_0, .inl (c0_1_0, 600, .inl g0_1_values))]) [0, 1, 2, 3] rfl
    have hD9 := hD.sub (ws' := [(h0, .inr (6, [.ref h0_0, .ref h0_1, .int v0_address, .int v0_file, .int v0_line, .int v0_column, .int v0_statement])), (h0_0, .inr (1, [.int v0_0_base, .int v0_0_range, .int v0_0_low, .int v0_0_start, .int v0_0_step])), (h0_1, .inr (0, [.ref h0_1_0, .int v0_1_size])), (h0_1_0, .inl (c0_1_0, 600, .inl g0_1_values))]) [0, 1, 2, 3] (by decide) rfl
    have hK9 := hK.sub (tys' := [(c0_1_0, .int)]) [0] rfl
    refine W.widen (k := 0) (n := 0) (Nat.le_of_ble_eq_true rfl) (Nat.le_of_ble_eq_true rfl) ?_
    refine tw_ret ?_
    exact W.vret hx hb hr (fun t ht hW => ⟨⟨(v0_statement, v0_1_size, g0_1_values), rfl, hw, by rw [ht]; exact hP9, va_K.moved hW.alike hK9, hD9⟩, hS.F ht⟩) hS.2.2 zd_Wr_writeStatement_22
  · have hw := hw.2 h1
    refine lv_aload_n hx hb zd_Wr_writeStatement_8 rfl (lv_at hl 0 rfl) ?_
    refine va_get (D := (dC, dI)) (ci := 6) (v := .ref h0_1) (C := zr_6) (T := zt_6) (N := 7) hx hb htb zi_6 hown hK hP 0 rfl rfl 1 (by decide) (htb _ zw_535) (fun _ h9 => h9) rfl zd_Wr_writeStatement_9 ?_
    refine lv_bipush (v := 6) hx hb zd_Wr_writeStatement_12 (by decide) ?_
    have hPc := hP.sub (ws' := [(h0_1, .inr (0, [.ref h0_1_0, .int v0_1_size])), (h0_1_0, .inl (c0_1_0, 600, .inl g0_1_values))]) [2, 3] rfl
    have hDc := hD.sub (ws' := [(h0_1, .inr (0, [.ref h0_1_0, .int v0_1_size])), (h0_1_0, .inl (c0_1_0, 600, .inl g0_1_values))]) [2, 3] (by decide) rfl
    have hKc := hK.sub (tys' := [(c0_1_0, .int)]) [0] rfl
    have hFc := va_free (wc := [(h0_1, .inr (0, [.ref h0_1_0, .int v0_1_size])), (h0_1_0, .inl (c0_1_0, 600, .inl g0_1_values))]) hD hS hA [2, 3] rfl
    refine tw_callv (tw_runV (As := [.int 6]) (rest := []) ⟨hx, hb, hml, hown, htb⟩ (mt_By_append l hl9 dC dI sa h0_1 h0_1_0 H.size c0_1_0 v0_1_size g0_1_values 6 _ _ hw) (cwV 1 htb (zgV zw_565 zw_164 zw_165 zw_3 zw_166) rfl rfl rfl (by decide +kernel) ⟨(Nat.le_of_ble_eq_true rfl), (Nat.le_of_ble_eq_true rfl)⟩) ⟨zPx_blind, va_recv (ci := 0) (q0 := 2) hK hP rfl rfl, zPx_pre hZ hS hFc hPc hKc hDc⟩ rfl rfl hl.1 rfl (lv_room (Nat.le_of_ble_eq_true rfl)) zd_Wr_writeStatement_14 ⟨(Nat.le_of_ble_eq_true rfl), (Nat.le_of_ble_eq_true rfl)⟩) hS (fun q _ h => hFc q h) hFc (fun q _ h => hFc q h) (fun E9 ce9 q9 u2 t H1 locs ht hvm hw hB hz1 hk1 hS hce hcv hcl => ?_) (fun u2 t H1 locs ht hvm hw hB hz1 hk1 hS => ?_)
    · obtain ⟨hE, hB⟩ := hB
      obtain ⟨hP1, hK1, hD1⟩ := hB
      rw [ht] at hP1
      have hK1 := va_K.moved hvm.symm hK1
      obtain ⟨hP, hD⟩ := va_join (wr := [(h0, .inr (6, [.ref h0_0, .ref h0_1, .int v0_address, .int v0_file, .int v0_line, .int v0_column, .int v0_statement])), (h0_0, .inr (1, [.int v0_0_base, .int v0_0_range, .int v0_0_low, .int v0_0_start, .int v0_0_step]))]) (w1 := [(h0_1, .inr (0, [.ref h0_1_0, .int u2.2.1])), (h0_1_0, .inl (c0_1_0, 600, .inl u2.2.2))]) hP hD [2, 3] [0, 1] rfl rfl (by decide) (by decide) hk1 hFc hP1 hD1
      generalize H1 = H at hP hS hce ⊢
      have hP : va_P (dC, dI) zC [(h0, .inr (6, [.ref h0_0, .ref h0_1, .int v0_address, .int v0_file, .int v0_line, .int v0_column, .int v0_statement])), (h0_0, .inr (1, [.int v0_0_base, .int v0_0_range, .int v0_0_low, .int v0_0_start, .int v0_0_step])), (h0_1, .inr (0, [.ref h0_1_0, .int u2.2.1])), (h0_1_0, .inl (c0_1_0, 600, .inl u2.2.2))] H := hP
      have hD : va_D A [(h0, .inr (6, [.ref h0_0, .ref h0_1, .int v0_address, .int v0_file, .int v0_line, .int v0_column, .int v0_statement])), (h0_0, .inr (1, [.int v0_0_base, .int v0_0_range, .int v0_0_low, .int v0_0_start, .int v0_0_step])), (h0_1, .inr (0, [.ref h0_1_0, .int u2.2.1])), (h0_1_0, .inl (c0_1_0, 600, .inl u2.2.2))] := hD
      have hP9 := hP.sub (ws' := [(h0, .inr (6, [.ref h0_0, .ref h0_1, .int v0_address, .int v0_file, .int v0_line, .int v0_column, .int v0_statement])), (h0_0, .inr (1, [.int v0_0_base, .int v0_0_range, .int v0_0_low, .int v0_0_start, .int v0_0_step])), (h0_1, .inr (0, [.ref h0_1_0, .int u2.2.1])), (h0_1_0, .inl (c0_1_0, 600, .inl u2.2.2))]) [0, 1, 2, 3] rfl
      have hD9 := hD.sub (ws' := [(h0, .inr (6, [.ref h0_0, .ref h0_1, .int v0_address, .int v0_file, .int v0_line, .int v0_column, .int v0_statement])), (h0_0, .inr (1, [.int v0_0_base, .int v0_0_range, .int v0_0_low, .int v0_0_start, .int v0_0_step])), (h0_1, .inr (0, [.ref h0_1_0, .int u2.2.1])), (h0_1_0, .inl (c0_1_0, 600, .inl u2.2.2))]) [0, 1, 2, 3] (by decide) rfl
      have hK9 := hK.sub (tys' := [(c0_1_0, .int)]) [0] rfl
      exact tw_out (E := E9) (fun x hx => (hEx x hx).elim) hlocks hce hcv hcl (fun t ht ha => ⟨(u2.1, (v0_statement, u2.2.1, u2.2.2)), hw, ⟨hE, by rw [ht]; exact hP9, va_K.moved ha hK9, hD9⟩, hS.F ht⟩) hS.2.2 (Nat.le_of_ble_eq_true rfl) (Nat.le_of_ble_eq_true rfl)
    · skip
      obtain ⟨hP1, hK1, hD1⟩ := hB
      rw [ht] at hP1
      have hK1 := va_K.moved hvm.symm hK1
      obtain ⟨hP, hD⟩ := va_join (wr := [(h0, .inr (6, [.ref h0_0, .ref h0_1, .int v0_address, .int v0_file, .int v0_line, .int v0_column, .int v0_statement])), (h0_0, .inr (1, [.int v0_0_base, .int v0_0_range, .int v0_0_low, .int v0_0_start, .int v0_0_step]))]) (w1 := [(h0_1, .inr (0, [.ref h0_1_0, .int u2.1])), (h0_1_0, .inl (c0_1_0, 600, .inl u2.2))]) hP hD [2, 3] [0, 1] rfl rfl (by decide) (by decide) hk1 hFc hP1 hD1
      generalize H1 = H at hP hS ⊢
      have hP : va_P (dC, dI) zC [(h0, .inr (6, [.ref h0_0, .ref h0_1, .int v0_address, .int v0_file, .int v0_line, .int v0_column, .int v0_statement])), (h0_0, .inr (1, [.int v0_0_base, .int v0_0_range, .int v0_0_low, .int v0_0_start, .int v0_0_step])), (h0_1, .inr (0, [.ref h0_1_0, .int u2.1])), (h0_1_0, .inl (c0_1_0, 600, .inl u2.2))] H := hP
      have hD : va_D A [(h0, .inr (6, [.ref h0_0, .ref h0_1, .int v0_address, .int v0_file, .int v0_line, .int v0_column, .int v0_statement])), (h0_0, .inr (1, [.int v0_0_base, .int v0_0_range, .int v0_0_low, .int v0_0_start, .int v0_0_step])), (h0_1, .inr (0, [.ref h0_1_0, .int u2.1])), (h0_1_0, .inl (c0_1_0, 600, .inl u2.2))] := hD
      refine W.widen (k := 0) (n := 0) (Nat.le_of_ble_eq_true rfl) (Nat.le_of_ble_eq_true rfl) ?_
      refine lv_aload_n hx hb zd_Wr_writeStatement_17 rfl (lv_at hl 0 rfl) ?_
      refine lv_iload_n hx hb zd_Wr_writeStatement_18 rfl (lv_at hl 1 rfl) ?_
      refine va_put (D := (dC, dI)) (ci := 6) (v := .int p0) (ty := .int) (C := zr_6) (T := zt_6) (N := 7) hx hb htb zi_6 zf_6 zk_6 zn_6 hown hK hP hD hS 0 rfl rfl 6 (by decide) (htb _ zw_540) (fun _ h9 => h9) rfl (by decide +kernel) rfl rfl (Nat.le_of_ble_eq_true rfl) zd_Wr_writeStatement_19 (fun H locs hP hD hS => ?_)
      have hP : va_P (dC, dI) zC [(h0, .inr (6, [.ref h0_0, .ref h0_1, .int v0_address, .int v0_file, .int v0_line, .int v0_column, .int p0])), (h0_0, .inr (1, [.int v0_0_base, .int v0_0_range, .int v0_0_low, .int v0_0_start, .int v0_0_step])), (h0_1, .inr (0, [.ref h0_1_0, .int u2.1])), (h0_1_0, .inl (c0_1_0, 600, .inl u2.2))] H := hP
      have hD : va_D A [(h0, .inr (6, [.ref h0_0, .ref h0_1, .int v0_address, .int v0_file, .int v0_line, .int v0_column, .int p0])), (h0_0, .inr (1, [.int v0_0_base, .int v0_0_range, .int v0_0_low, .int v0_0_start, .int v0_0_step])), (h0_1, .inr (0, [.ref h0_1_0, .int u2.1])), (h0_1_0, .inl (c0_1_0, 600, .inl u2.2))] := hD
      have hP9 := hP.sub (ws' := [(h0, .inr (6, [.ref h0_0, .ref h0_1, .int v0_address, .int v0_file, .int v0_line, .int v0_column, .int p0])), (h0_0, .inr (1, [.int v0_0_base, .int v0_0_range, .int v0_0_low, .int v0_0_start, .int v0_0_step])), (h0_1, .inr (0, [.ref h0_1_0, .int u2.1])), (h0_1_0, .inl (c0_1_0, 600, .inl u2.2))]) [0, 1, 2, 3] rfl
      have hD9 := hD.sub (ws' := [(h0, .inr (6, [.ref h0_0, .ref h0_1, .int v0_address, .int v0_file, .int v0_line, .int v0_column, .int p0])), (h0_0, .inr (1, [.int v0_0_base, .int v0_0_range, .int v0_0_low, .int v0_0_start, .int v0_0_step])), (h0_1, .inr (0, [.ref h0_1_0, .int u2.1])), (h0_1_0, .inl (c0_1_0, 600, .inl u2.2))]) [0, 1, 2, 3] (by decide) rfl
      have hK9 := hK.sub (tys' := [(c0_1_0, .int)]) [0] rfl
      refine W.widen (k := 0) (n := 0) (Nat.le_of_ble_eq_true rfl) (Nat.le_of_ble_eq_true rfl) ?_
      refine tw_ret ?_
      exact W.vret hx hb hr (fun t ht hW => ⟨⟨(p0, u2.1, u2.2), rfl, hw, by rw [ht]; exact hP9, va_K.moved hW.alike hK9, hD9⟩, hS.F ht⟩) hS.2.2 zd_Wr_writeStatement_22
