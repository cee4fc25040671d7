abbrev zo_Wr_writeSpecial : Room := { frames := 8, cells := 1, slots := 6, locals := 134 }
abbrev zb_Wr_writeSpecial (dC : Nat → ClassId) (dI : Nat → Nat → Nat) (A : Nat → Prop) (h0 h0_0 h0_1 h0_1_0 : Nat) (c0_1_0 : ClassId) (v0_address : Int32) (v0_file : Int32) (v0_line : Int32) (v0_column : Int32) (v0_statement : Int32) (v0_0_base : Int32) (v0_0_range : Int32) (v0_0_low : Int32) (v0_0_start : Int32) (v0_0_step : Int32) (u : Int32 × (Nat → Int32)) (t : State) : Prop := va_P (dC, dI) zC [(h0, .inr (6, [.ref h0_0, .ref h0_1, .int v0_address, .int v0_file, .int v0_line, .int v0_column, .int v0_statement])), (h0_0, .inr (1, [.int v0_0_base, .int v0_0_range, .int v0_0_low, .int v0_0_start, .int v0_0_step])), (h0_1, .inr (0, [.ref h0_1_0, .int u.1])), (h0_1_0, .inl (c0_1_0, 600, .inl u.2))] t.heap ∧ va_K (dC, dI) zC [(c0_1_0, .int)] t ∧ va_D A [(h0, .inr (6, [.ref h0_0, .ref h0_1, .int v0_address, .int v0_file, .int v0_line, .int v0_column, .int v0_statement])), (h0_0, .inr (1, [.int v0_0_base, .int v0_0_range, .int v0_0_low, .int v0_0_start, .int v0_0_step])), (h0_1, .inr (0, [.ref h0_1_0, .int u.1])), (h0_1_0, .inl (c0_1_0, 600, .inl u.2))]
abbrev zx_Wr_writeSpecial (dC : Nat → ClassId) (dI : Nat → Nat → Nat) (A : Nat → Prop) (h0 h0_0 h0_1 h0_1_0 : Nat) (c0_1_0 : ClassId) (v0_address : Int32) (v0_file : Int32) (v0_line : Int32) (v0_column : Int32) (v0_statement : Int32) (v0_0_base : Int32) (v0_0_range : Int32) (v0_0_low : Int32) (v0_0_start : Int32) (v0_0_step : Int32) (E : String) (u : Nat × (Int32 × (Nat → Int32))) (t : State) : Prop := E = zE u.1 ∧ zb_Wr_writeSpecial dC dI A h0 h0_0 h0_1 h0_1_0 c0_1_0 v0_address v0_file v0_line v0_column v0_statement v0_0_base v0_0_range v0_0_low v0_0_start v0_0_step u.2 t
set_option maxHeartbeats 4000000 in
set_option maxRecDepth 100000 in
theorem mt_Wr_writeSpecial (l : Launch) (hl9 : l.stackTraces = false) (dC : Nat → ClassId) (dI : Nat → Nat → Nat) (sa : Nat → Nat) (h0 h0_0 h0_1 h0_1_0 sz : Nat) (c0_1_0 : ClassId) (v0_address : Int32) (v0_file : Int32) (v0_line : Int32) (v0_column : Int32) (v0_statement : Int32) (v0_0_base : Int32) (v0_0_range : Int32) (v0_0_low : Int32) (v0_0_start : Int32) (v0_0_step : Int32) (v0_1_size : Int32) (g0_1_values : Nat → Int32) (p0 : Int32) (p1 : Int32) (post : (Int32 × (Nat → Int32)) → Prop) (postX : Nat × (Int32 × (Nat → Int32)) → Prop) (hw : wp_Wr_writeSpecial v0_0_base v0_0_range v0_0_low v0_0_step v0_1_size g0_1_values p0 p1 post postX) : tw_Met l zy_Wr_writeSpecial zs_Wr_writeSpecial zo_Wr_writeSpecial (zPx dC dI sa [.ref h0, .int p0, .int p1] sz [(h0, .inr (6, [.ref h0_0, .ref h0_1, .int v0_address, .int v0_file, .int v0_line, .int v0_column, .int v0_statement])), (h0_0, .inr (1, [.int v0_0_base, .int v0_0_range, .int v0_0_low, .int v0_0_start, .int v0_0_step])), (h0_1, .inr (0, [.ref h0_1_0, .int v0_1_size])), (h0_1_0, .inl (c0_1_0, 600, .inl g0_1_values))] [(c0_1_0, .int)]) (va_Qv (fun (u : Int32 × (Nat → Int32)) => post u) (zb_Wr_writeSpecial dC dI (va_A [(h0, .inr (6, [.ref h0_0, .ref h0_1, .int v0_address, .int v0_file, .int v0_line, .int v0_column, .int v0_statement])), (h0_0, .inr (1, [.int v0_0_base, .int v0_0_range, .int v0_0_low, .int v0_0_start, .int v0_0_step])), (h0_1, .inr (0, [.ref h0_1_0, .int v0_1_size])), (h0_1_0, .inl (c0_1_0, 600, .inl g0_1_values))] sz) h0 h0_0 h0_1 h0_1_0 c0_1_0 v0_address v0_file v0_line v0_column v0_statement v0_0_base v0_0_range v0_0_low v0_0_start v0_0_step) (va_A [(h0, .inr (6, [.ref h0_0, .ref h0_1, .int v0_address, .int v0_file, .int v0_line, .int v0_column, .int v0_statement])), (h0_0, .inr (1, [.int v0_0_base, .int v0_0_range, .int v0_0_low, .int v0_0_start, .int v0_0_step])), (h0_1, .inr (0, [.ref h0_1_0, .int v0_1_size])), (h0_1_0, .inl (c0_1_0, 600, .inl g0_1_values))] sz)) (vx_X (fun (u : Nat × (Int32 × (Nat → Int32))) => postX u) (zx_Wr_writeSpecial dC dI (va_A [(h0, .inr (6, [.ref h0_0, .ref h0_1, .int v0_address, .int v0_file, .int v0_line, .int v0_column, .int v0_statement])), (h0_0, .inr (1, [.int v0_0_base, .int v0_0_range, .int v0_0_low, .int v0_0_start, .int v0_0_step])), (h0_1, .inr (0, [.ref h0_1_0, .int v0_1_size])), (h0_1_0, .inl (c0_1_0, 600, .inl g0_1_values))] sz) h0 h0_0 h0_1 h0_1_0 c0_1_0 v0_address v0_file v0_line v0_column v0_statement v0_0_base v0_0_range v0_0_low v0_0_start v0_0_step) (va_A [(h0, .inr (6, [.ref h0_0, .ref h0_1, .int v0_address, .int v0_file, .int v0_line, .int v0_column, .int v0_statement])), (h0_0, .inr (1, [.int v0_0_base, .int v0_0_range, .int v0_0_low, .int v0_0_start, .int v0_0_step])), (h0_1, .inr (0, [.ref h0_1_0, .int v0_1_size])), (h0_1_0, .inl (c0_1_0, 600, .inl g0_1_values))] sz)) 0 0 1 6 (va_A [(h0, .inr (6, [.ref h0_0, .ref h0_1, .int v0_address, .int v0_file, .int v0_line, .int v0_column, .int v0_statement])), (h0_0, .inr (1, [.int v0_0_base, .int v0_0_range, .int v0_0_low, .int v0_0_start, .int v0_0_step])), (h0_1, .inr (0, [.ref h0_1_0, .int v0_1_size])), (h0_1_0, .inl (c0_1_0, 600, .inl g0_1_values))] sz) := by
  unfold wp_Wr_writeSpecial at hw
  refine tw_ofW (cc := zc_Wr_writeSpecial) (maxL := 4) (ret := none) (by decide) rfl ?_
  intro p e s m args below meth c s₁ B hml hEx hv
  obtain ⟨rfl, hsz, hP, hK, hD0, hZ⟩ := hv
  have hx := B.exec
  have hb := B.bytes
  have hr := B.returns
  have hts := atoms_spec (ws := zs_Wr_writeSpecial) B.pre
  have htb := fun w (h : w ∈ zB) => hts w (List.mem_cons_of_mem _ h)
  have hown : s.vm.findClass zr_6 = some m.cls := findClass_of_methodNamed B.named
  have hlocks := B.notSynchronized
  subst hsz
  have hD := hD0.self (sz := s.heap.size)
  generalize hAe : va_A [(h0, .inr (6, [.ref h0_0, .ref h0_1, .int v0_address, .int v0_file, .int v0_line, .int v0_column, .int v0_statement])), (h0_0, .inr (1, [.int v0_0_base, .int v0_0_range, .int v0_0_low, .int v0_0_start, .int v0_0_step])), (h0_1, .inr (0, [.ref h0_1_0, .int v0_1_size])), (h0_1_0, .inl (c0_1_0, 600, .inl g0_1_values))] s.heap.size = A at hD hZ ⊢
  have hA : ∀ q : Nat, s.heap.size ≤ q → A q := fun q h => by rw [← hAe]; exact Or.inr h
  clear hAe hD0
  have hl := lv_entry ([.ref h0, .int p0, .int p1]) (n := 4) (Nat.le_of_ble_eq_true rfl)
  rw [lg_entry_eq]
  generalize (lg_sl ([.ref h0, .int p0, .int p1]) ++ List.replicate (4 - (lg_sl ([.ref h0, .int p0, .int p1])).length) Slot.unset).toArray = ls at hl ⊢
  have hl : lv_has ls 4 [(0, .ref h0), (1, .int p0), (2, .int p1)] := hl
  obtain ⟨H, hH⟩ : ∃ H, H = s.heap := ⟨_, rfl⟩
  have hS : va_S A s.heap H [] := by rw [hH]; exact va_S.rf
  rw [← hH] at hP ⊢
  refine lv_iload_n hx hb zd_Wr_writeSpecial_0 rfl (lv_at hl 1 rfl) ?_
  refine lv_istore_n (i := 3) (lv' := [(3, .int p0), (0, .ref h0), (1, .int p0), (2, .int p1)]) hx hb zd_Wr_writeSpecial_1 rfl hl (by decide) rfl (fun ls hl => ?_)
  refine lv_aload_n hx hb zd_Wr_writeSpecial_2 rfl (lv_at hl 1 rfl) ?_
  refine lv_iload_n hx hb zd_Wr_writeSpecial_3 rfl (lv_at hl 0 rfl) ?_
  refine lv_iload_n hx hb zd_Wr_writeSpecial_4 rfl (lv_at hl 3 rfl) ?_
  have hPc := hP.sub (ws' := [(h0, .inr (6, [.ref h0_0, .ref h0_1, .int v0_address, .int v0_file, .int v0_line, .int v0_column, .int v0_statement])), (h0_0, .inr (1, [.int v0_0_base, .int v0_0_range, .int v0_0_low, .int v0_0_start, .int v0_0_step])), (h0_1, .inr (0, [.ref h0_1_0, .int v0_1_size])), (h0_1_0, .inl (c0_1_0, 600, .inl g0_1_values))]) [0, 1, 2, 3] rfl
  have hDc := hD.sub (ws' := [(h0, .inr (6, [.ref h0_0, .ref h0_1, .int v0_address, .int v0_file, .int v0_line, .int v0_column, .int v0_statement])), (h0_0, .inr (1, [.int v0_0_base, .int v0_0_range, .int v0_0_low, .int v0_0_start, .int v0_0_step])), (h0_1, .inr (0, [.ref h0_1_0, .int v0_1_size])), (h0_1_0, .inl (c0_1_0, 600, .inl g0_1_values))]) [0, 1, 2, 3] (by decide) rfl
  have hKc := hK.sub (tys' := [(c0_1_0, .int)]) [0] rfl
  have hFc := va_free (wc := [(h0, .inr (6, [.ref h0_0, .ref h0_1, .int v0_address, .int v0_file, .int v0_line, .int v0_column, .int v0_statement])), (h0_0, .inr (1, [.int v0_0_base, .int v0_0_range, .int v0_0_low, .int v0_0_start, .int v0_0_step])), (h0_1, .inr (0, [.ref h0_1_0, .int v0_1_size])), (h0_1_0, .inl (c0_1_0, 600, .inl g0_1_values))]) hD hS hA [0, 1, 2, 3] rfl
  refine va_calll (va_runV (As := [.int p0, .int p1]) (rest := []) ⟨hx, hb, hml, hown, htb⟩ (mt_Wr_special l dC dI h0 h0_0 h0_1 h0_1_0 H.size c0_1_0 v0_address v0_file v0_line v0_column v0_statement v0_0_base v0_0_range v0_0_low v0_0_start v0_0_step v0_1_size g0_1_values p0 p1 _ hw) (cwV 2 htb (zgV zw_594 zw_596 zp_Wr_special zw_18 zw_597) rfl rfl rfl (by decide +kernel) ⟨(Nat.le_of_ble_eq_true rfl), (Nat.le_of_ble_eq_true rfl)⟩) ⟨zP_blind, va_recv (ci := 6) (q0 := 0) hK hP rfl rfl, zP_pre hPc hKc hDc⟩ rfl rfl hl.1 rfl (lv_room (Nat.le_of_ble_eq_true rfl)) zd_Wr_writeSpecial_5 ⟨(Nat.le_of_ble_eq_true rfl), (Nat.le_of_ble_eq_true rfl)⟩) hS (fun q _ h => hFc q h) hFc (fun x2 u1 t H1 locs ht hvm hw hB hz1 hk1 hS => ?_)
  obtain ⟨hP1, hK1, hD1⟩ := hB
  rw [ht] at hP1
  have hK1 := va_K.moved hvm.symm hK1
  obtain ⟨hP, hD⟩ := va_join (wr := []) (w1 := [(h0, .inr (6, [.ref h0_0, .ref h0_1, .int v0_address, .int v0_file, .int v0_line, .int v0_column, .int v0_statement])), (h0_0, .inr (1, [.int v0_0_base, .int v0_0_range, .int v0_0_low, .int v0_0_start, .int v0_0_step])), (h0_1, .inr (0, [.ref h0_1_0, .int v0_1_size])), (h0_1_0, .inl (c0_1_0, 600, .inl g0_1_values))]) hP hD [0, 1, 2, 3] [] rfl rfl (by decide) (by decide) hk1 hFc hP1 hD1
  generalize H1 = H at hP hS ⊢
  have hP : va_P (dC, dI) zC [(h0, .inr (6, [.ref h0_0, .ref h0_1, .int v0_address, .int v0_file, .int v0_line, .int v0_column, .int v0_statement])), (h0_0, .inr (1, [.int v0_0_base, .int v0_0_range, .int v0_0_low, .int v0_0_start, .int v0_0_step])), (h0_1, .inr (0, [.ref h0_1_0, .int v0_1_size])), (h0_1_0, .inl (c0_1_0, 600, .inl g0_1_values))] H := hP
  have hD : va_D A [(h0, .inr (6, [.ref h0_0, .ref h0_1, .int v0_address, .int v0_file, .int v0_line, .int v0_column, .int v0_statement])), (h0_0, .inr (1, [.int v0_0_base, .int v0_0_range, .int v0_0_low, .int v0_0_start, .int v0_0_step])), (h0_1, .inr (0, [.ref h0_1_0, .int v0_1_size])), (h0_1_0, .inl (c0_1_0, 600, .inl g0_1_values))] := hD
  refine W.widen (k := 0) (n := 0) (Nat.le_of_ble_eq_true rfl) (Nat.le_of_ble_eq_true rfl) ?_
  have hPc := hP.sub (ws' := []) [] rfl
  have hDc := hD.sub (ws' := []) [] (by decide) rfl
  have hKc := hK.sub (tys' := []) [] rfl
  have hFc := va_free (wc := []) hD hS hA [] rfl
  refine va_calli (va_runS (As := [.long x2]) (rest := []) ⟨hx, hb, hml, hown, htb⟩ (mt_Wr_isByte l dC dI H.size x2 _ hw) (va_cwS 1 htb (zgS zw_598 zw_599 zw_18 zw_600) rfl rfl rfl (by decide +kernel) ⟨(Nat.le_of_ble_eq_true rfl), (Nat.le_of_ble_eq_true rfl)⟩) ⟨zP_blind, zP_pre hPc hKc hDc⟩ rfl rfl hl.1 rfl (lv_room (Nat.le_of_ble_eq_true rfl)) zd_Wr_writeSpecial_8 ⟨(Nat.le_of_ble_eq_true rfl), (Nat.le_of_ble_eq_true rfl)⟩) hS (fun q _ h => hFc q h) hFc (fun x5 u4 t H1 locs ht hvm hw hB hz1 hk1 hS => ?_)
  obtain ⟨hP1, hK1, hD1⟩ := hB
  rw [ht] at hP1
  have hK1 := va_K.moved hvm.symm hK1
  obtain ⟨hP, hD⟩ := va_join (wr := [(h0, .inr (6, [.ref h0_0, .ref h0_1, .int v0_address, .int v0_file, .int v0_line, .int v0_column, .int v0_statement])), (h0_0, .inr (1, [.int v0_0_base, .int v0_0_range, .int v0_0_low, .int v0_0_start, .int v0_0_step])), (h0_1, .inr (0, [.ref h0_1_0, .int v0_1_size])), (h0_1_0, .inl (c0_1_0, 600, .inl g0_1_values))]) (w1 := []) hP hD [] [0, 1, 2, 3] rfl rfl (by decide) (by decide) hk1 hFc hP1 hD1
  generalize H1 = H at hP hS ⊢
  have hP : va_P (dC, dI) zC [(h0, .inr (6, [.ref h0_0, .ref h0_1, .int v0_address, .int v0_file, .int v0_line, .int v0_column, .int v0_statement])), (h0_0, .inr (1, [.int v0_0_base, .int v0_0_range, .int v0_0_low, .int v0_0_start, .int v0_0_step])), (h0_1, .inr (0, [.ref h0_1_0, .int v0_1_size])), (h0_1_0, .inl (c0_1_0, 600, .inl g0_1_values))] H := hP
  have hD : va_D A [(h0, .inr (6, [.ref h0_0, .ref h0_1, .int v0_address, .int v0_file, .int v0_line, .int v0_column, .int v0_statement])), (h0_0, .inr (1, [.int v0_0_base, .int v0_0_range, .int v0_0_low, .int v0_0_start, .int v0_0_step])), (h0_1, .inr (0, [.ref h0_1_0, .int v0_1_size])), (h0_1_0, .inl (c0_1_0, 600, .inl g0_1_values))] := hD
  refine W.widen (k := 0) (n := 0) (Nat.le_of_ble_eq_true rfl) (Nat.le_of_ble_eq_true rfl) ?_
  refine lv_if_ne (tgt := 82) hx hb zd_Wr_writeSpecial_11 (by decide) (fun h7 => ?_) (fun h7 => ?_)
  · have hw := hw.1 h7
    refine lv_aload_n hx hb zd_Wr_writeSpecial_82 rfl (lv_at hl 1 rfl) ?_
    refine va_get (D := (dC, dI)) (ci := 6) (v := .ref h0_1) (C := zr_6) (T := zt_6) (N := 7) hx hb htb zi_6 hown hK hP 0 rfl rfl 1 (by decide) (htb _ zw_535) (fun _ h9 => h9) rfl zd_Wr_writeSpecial_83 ?_
    refine lv_aload_n hx hb zd_Wr_writeSpecial_86 rfl (lv_at hl 1 rfl) ?_
    refine lv_iload_n hx hb zd_Wr_writeSpecial_87 rfl (lv_at hl 0 rfl) ?_
    refine lv_iload_n hx hb zd_Wr_writeSpecial_88 rfl (lv_at hl 3 rfl) ?_
    have hPc := hP.sub (ws' := [(h0, .inr (6, [.ref h0_0, .ref h0_1, .int v0_address, .int v0_file, .int v0_line, .int v0_column, .int v0_statement])), (h0_0, .inr (1, [.int v0_0_base, .int v0_0_range, .int v0_0_low, .int v0_0_start, .int v0_0_step])), (h0_1, .inr (0, [.ref h0_1_0, .int v0_1_size])), (h0_1_0, .inl (c0_1_0, 600, .inl g0_1_values))]) [0, 1, 2, 3] rfl
    have hDc := hD.sub (ws' := [(h0, .inr (6, [.ref h0_0, .ref h0_1, .int v0_address, .int v0_file, .int v0_line, .int v0_column, .int v0_statement])), (h0_0, .inr (1, [.int v0_0_base, .int v0_0_range, .int v0_0_low, .int v0_0_start, .int v0_0_step])), (h0_1, .inr (0, [.ref h0_1_0, .int v0_1_size])), (h0_1_0, .inl (c0_1_0, 600, .inl g0_1_values))]) [0, 1, 2, 3] (by decide) rfl
    have hKc := hK.sub (tys' := [(c0_1_0, .int)]) [0] rfl
    have hFc := va_free (wc := [(h0, .inr (6, [.ref h0_0, .ref h0_1, .int v0_address, .int v0_file, .int v0_line, .int v0_column, .int v0_statement])), (h0_0, .inr (1, [.int v0_0_base, .int v0_0_range, .int v0_0_low, .int v0_0_start, .int v0_0_step])), (h0_1, .inr (0, [.ref h0_1_0, .int v0_1_size])), (h0_1_0, .inl (c0_1_0, 600, .inl g0_1_values))]) hD hS hA [0, 1, 2, 3] rfl
    refine va_calll (va_runV (As := [.int p0, .int p1]) (rest := [.ref h0_1]) ⟨hx, hb, hml, hown, htb⟩ (mt_Wr_special l dC dI h0 h0_0 h0_1 h0_1_0 H.size c0_1_0 v0_address v0_file v0_line v0_column v0_statement v0_0_base v0_0_range v0_0_low v0_0_start v0_0_step v0_1_size g0_1_values p0 p1 _ hw) (cwV 2 htb (zgV zw_594 zw_596 zp_Wr_special zw_18 zw_597) rfl rfl rfl (by decide +kernel) ⟨(Nat.le_of_ble_eq_true rfl), (Nat.le_of_ble_eq_true rfl)⟩) ⟨zP_blind, va_recv (ci := 6) (q0 := 0) hK hP rfl rfl, zP_pre hPc hKc hDc⟩ rfl rfl hl.1 rfl (lv_room (Nat.le_of_ble_eq_true rfl)) zd_Wr_writeSpecial_89 ⟨(Nat.le_of_ble_eq_true rfl), (Nat.le_of_ble_eq_true rfl)⟩) hS (fun q _ h => hFc q h) hFc (fun x9 u8 t H1 locs ht hvm hw hB hz1 hk1 hS => ?_)
    obtain ⟨hP1, hK1, hD1⟩ := hB
    rw [ht] at hP1
    have hK1 := va_K.moved hvm.symm hK1
    obtain ⟨hP, hD⟩ := va_join (wr := []) (w1 := [(h0, .inr (6, [.ref h0_0, .ref h0_1, .int v0_address, .int v0_file, .int v0_line, .int v0_column, .int v0_statement])), (h0_0, .inr (1, [.int v0_0_base, .int v0_0_range, .int v0_0_low, .int v0_0_start, .int v0_0_step])), (h0_1, .inr (0, [.ref h0_1_0, .int v0_1_size])), (h0_1_0, .inl (c0_1_0, 600, .inl g0_1_values))]) hP hD [0, 1, 2, 3] [] rfl rfl (by decide) (by decide) hk1 hFc hP1 hD1
    generalize H1 = H at hP hS ⊢
    have hP : va_P (dC, dI) zC [(h0, .inr (6, [.ref h0_0, .ref h0_1, .int v0_address, .int v0_file, .int v0_line, .int v0_column, .int v0_statement])), (h0_0, .inr (1, [.int v0_0_base, .int v0_0_range, .int v0_0_low, .int v0_0_start, .int v0_0_step])), (h0_1, .inr (0, [.ref h0_1_0, .int v0_1_size])), (h0_1_0, .inl (c0_1_0, 600, .inl g0_1_values))] H := hP
    have hD : va_D A [(h0, .inr (6, [.ref h0_0, .ref h0_1, .int v0_address, .int v0_file, .int v0_line, .int v0_column, .int v0_statement])), (h0_0, .inr (1, [.int v0_0_base, .int v0_0_range, .int v0_0_low, .int v0_0_start, .int v0_0_step])), (h0_1, .inr (0, [.ref h0_1_0, .int v0_1_size])), (h0_1_0, .inl (c0_1_0, 600, .inl g0_1_values))] := hD
    refine W.widen (k := 0) (n := 0) (Nat.le_of_ble_eq_true rfl) (Nat.le_of_ble_eq_true rfl) ?_
    refine lv_l2i hx hb zd_Wr_writeSpecial_92 rfl ?_
    refine lv_topi (fun x11 ex11 => ?_)
    have hw := hw x11 ex11
    have hPc := hP.sub (ws' := [(h0_1, .inr (0, [.ref h0_1_0, .int v0_1_size])), (h0_1_0, .inl (c0_1_0, 600, .inl g0_1_values))]) [2, 3] rfl
    have hDc := hD.sub (ws' := [(h0_1, .inr (0, [.ref h0_1_0, .int v0_1_size])), (h0_1_0, .inl (c0_1_0, 600, .inl g0_1_values))]) [2, 3] (by decide) rfl
    have hKc := hK.sub (tys' := [(c0_1_0, .int)]) [0] rfl
    have hFc := va_free (wc := [(h0_1, .inr (0, [.ref h0_1_0, .int v0_1_size])), (h0_1_0, .inl (c0_1_0, 600, .inl g0_1_values))]) hD hS hA [2, 3] rfl
    refine tw_callv (tw_runV (As := [.int x11]) (rest := []) ⟨hx, hb, hml, hown, htb⟩ (mt_By_append l hl9 dC dI sa h0_1 h0_1_0 H.size c0_1_0 v0_1_size g0_1_values x11 _ _ hw) (cwV 1 htb (zgV zw_565 zw_164 zw_165 zw_3 zw_166) rfl rfl rfl (by decide +kernel) ⟨(Nat.le_of_ble_eq_true rfl), (Nat.le_of_ble_eq_true rfl)⟩) ⟨zPx_blind, va_recv (ci := 0) (q0 := 2) hK hP rfl rfl, zPx_pre hZ hS hFc hPc hKc hDc⟩ rfl rfl hl.1 rfl (lv_room (Nat.le_of_ble_eq_true rfl)) zd_Wr_writeSpecial_93 ⟨(Nat.le_of_ble_eq_true rfl), (Nat.le_of_ble_eq_true rfl)⟩) hS (fun q _ h => hFc q h) hFc (fun q _ h => hFc q h) (fun E9 ce9 q9 u12 t H1 locs ht hvm hw hB hz1 hk1 hS hce hcv hcl => ?_) (fun u12 t H1 locs ht hvm hw hB hz1 hk1 hS => ?_)
    · obtain ⟨hE, hB⟩ := hB
      obtain ⟨hP1, hK1, hD1⟩ := hB
      rw [ht] at hP1
      have hK1 := va_K.moved hvm.symm hK1
      obtain ⟨hP, hD⟩ := va_join (wr := [(h0, .inr (6, [.ref h0_0, .ref h0_1, .int v0_address, .int v0_file, .int v0_line, .int v0_column, .int v0_statement])), (h0_0, .inr (1, [.int v0_0_base, .int v0_0_range, .int v0_0_low, .int v0_0_start, .int v0_0_step]))]) (w1 := [(h0_1, .inr (0, [.ref h0_1_0, .int u12.2.1])), (h0_1_0, .inl (c0_1_0, 600, .inl u12.2.2))]) hP hD [2, 3] [0, 1] rfl rfl (by decide) (by decide) hk1 hFc hP1 hD1
      generalize H1 = H at hP hS hce ⊢
      have hP : va_P (dC, dI) zC [(h0, .inr (6, [.ref h0_0, .ref h0_1, .int v0_address, .int v0_file, .int v0_line, .int v0_column, .int v0_statement])), (h0_0, .inr (1, [.int v0_0_base, .int v0_0_range, .int v0_0_low, .int v0_0_start, .int v0_0_step])), (h0_1, .inr (0, [.ref h0_1_0, .int u12.2.1])), (h0_1_0, .inl (c0_1_0, 600, .inl u12.2.2))] H := hP
      have hD : va_D A [(h0, .inr (6, [.ref h0_0, .ref h0_1, .int v0_address, .int v0_file, .int v0_line, .int v0_column, .int v0_statement])), (h0_0, .inr (1, [.int v0_0_base, .int v0_0_range, .int v0_0_low, .int v0_0_start, .int v0_0_step])), (h0_1, .inr (0, [.ref h0_1_0, .int u12.2.1])), (h0_1_0, .inl (c0_1_0, 600, .inl u12.2.2))] := hD
      have hP9 := hP.sub (ws' := [(h0, .inr (6, [.ref h0_0, .ref h0_1, .int v0_address, .int v0_file, .int v0_line, .int v0_column, .int v0_statement])), (h0_0, .inr (1, [.int v0_0_base, .int v0_0_range, .int v0_0_low, .int v0_0_start, .int v0_0_step])), (h0_1, .inr (0, [.ref h0_1_0, .int u12.2.1])), (h0_1_0, .inl (c0_1_0, 600, .inl u12.2.2))]) [0, 1, 2, 3] rfl
      have hD9 := hD.sub (ws' := [(h0, .inr (6, [.ref h0_0, .ref h0_1, .int v0_address, .int v0_file, .int v0_line, .int v0_column, .int v0_statement])), (h0_0, .inr (1, [.int v0_0_base, .int v0_0_range, .int v0_0_low, .int v0_0_start, .int v0_0_step])), (h0_1, .inr (0, [.ref h0_1_0, .int u12.2.1])), (h0_1_0, .inl (c0_1_0, 600, .inl u12.2.2))]) [0, 1, 2, 3] (by decide) rfl
      have hK9 := hK.sub (tys' := [(c0_1_0, .int)]) [0] rfl
      exact tw_out (E := E9) (fun x hx => (hEx x hx).elim) hlocks hce hcv hcl (fun t ht ha => ⟨(u12.1, (u12.2.1, u12.2.2)), hw, ⟨hE, by rw [ht]; exact hP9, va_K.moved ha hK9, hD9⟩, hS.F ht⟩) hS.2.2 (Nat.le_of_ble_eq_true rfl) (Nat.le_of_ble_eq_true rfl)
    · skip
      obtain ⟨hP1, hK1, hD1⟩ := hB
      rw [ht] at hP1
      have hK1 := va_K.moved hvm.symm hK1
      obtain ⟨hP, hD⟩ := va_join (wr := [(h0, .inr (6, [.ref h0_0, .ref h0_1, .int v0_address, .int v0_file, .int v0_line, .int v0_column, .int v0_statement])), (h0_0, .inr (1, [.int v0_0_base, .int v0_0_range, .int v0_0_low, .int v0_0_start, .int v0_0_step]))]) (w1 := [(h0_1, .inr (0, [.ref h0_1_0, .int u12.1])), (h0_1_0, .inl (c0_1_0, 600, .inl u12.2))]) hP hD [2, 3] [0, 1] rfl rfl (by decide) (by decide) hk1 hFc hP1 hD1
      generalize H1 = H at hP hS ⊢
      have hP : va_P (dC, dI) zC [(h0, .inr (6, [.ref h0_0, .ref h0_1, .int v0_address, .int v0_file, .int v0_line, .int v0_column, .int v0_statement])), (h0_0, .inr (1, [.int v0_0_base, .int v0_0_range, .int v0_0_low, .int v0_0_start, .int v0_0_step])), (h0_1, .inr (0, [.ref h0_1_0, .int u12.1])), (h0_1_0, .inl (c0_1_0, 600, .inl u12.2))] H := hP
      have hD : va_D A [(h0, .inr (6, [.ref h0_0, .ref h0_1, .int v0_address, .int v0_file, .int v0_line, .int v0_column, .int v0_statement])), (h0_0, .inr (1, [.int v0_0_base, .int v0_0_range, .int v0_0_low, .int v0_0_start, .int v0_0_step])), (h0_1, .inr (0, [.ref h0_1_0, .int u12.1])), (h0_1_0, .inl (c0_1_0, 600, .inl u12.2))] := hD
      refine W.widen (k := 0) (n := 0) (Nat.le_of_ble_eq_true rfl) (Nat.le_of_ble_eq_true rfl) ?_
      have hP9 := hP.sub (ws' := [(h0, .inr (6, [.ref h0_0, .ref h0_1, .int v0_address, .int v0_file, .int v0_line, .int v0_column, .int v0_statement])), (h0_0, .inr (1, [.int v0_0_base, .int v0_0_range, .int v0_0_low, .int v0_0_start, .int v0_0_step])), (h0_1, .inr (0, [.ref h0_1_0, .int u12.1])), (h0_1_0, .inl (c0_1_0, 600, .inl u12.2))]) [0, 1, 2, 3] rfl
      have hD9 := hD.sub (ws' := [(h0, .inr (6, [.ref h0_0, .ref h0_1, .int v0_address, .int v0_file, .int v0_line, .int v0_column, .int v0_statement])), (h0_0, .inr (1, [.int v0_0_base, .int v0_0_range, .int v0_0_low, .int v0_0_start, .int v0_0_step])), (h0_1, .inr (0, [.ref h0_1_0, .int u12.1])), (h0_1_0, .inl (c0_1_0, 600, .inl u12.2))]) [0, 1, 2, 3] (by decide) rfl
      have hK9 := hK.sub (tys' := [(c0_1_0, .int)]) [0] rfl
      refine W.widen (k := 0) (n := 0) (Nat.le_of_ble_eq_true rfl) (Nat.le_of_ble_eq_true rfl) ?_
      refine tw_ret ?_
      exact W.vret hx hb hr (fun t ht hW => ⟨⟨(u12.1, u12.2), rfl, hw, by rw [ht]; exact hP9, va_K.moved hW.alike hK9, hD9⟩, hS.F ht⟩) hS.2.2 zd_Wr_writeSpecial_96
  · have hw := hw.2 h7
    refine lv_iload_n hx hb zd_Wr_writeSpecial_14 rfl (lv_at hl 0 rfl) ?_
    refine lv_aload_n hx hb zd_Wr_writeSpecial_15 rfl (lv_at hl 1 rfl) ?_
    refine va_get (D := (dC, dI)) (ci := 6) (v := .ref h0_0) (C := zr_6) (T := zt_6) (N := 7) hx hb htb zi_6 hown hK hP 0 rfl rfl 0 (by decide) (htb _ zw_534) (fun _ h9 => h9) rfl zd_Wr_writeSpecial_16 ?_
    refine va_get (D := (dC, dI)) (ci := 1) (v := .int v0_0_step) (C := zr_1) (T := zt_1) (N := 5) hx hb htb zi_1 hown hK hP 1 rfl rfl 4 (by decide) (htb _ zw_47) (fun _ h9 => h9) rfl zd_Wr_writeSpecial_19 ?_
    have jn67 : ∀  (ls : Array Slot) (H : Heap) (locs : List Loc), lv_has ls 4 [(3, .int p0), (0, .ref h0), (1, .int p0), (2, .int p1)] → va_P (dC, dI) zC [(h0, .inr (6, [.ref h0_0, .ref h0_1, .int v0_address, .int v0_file, .int v0_line, .int v0_column, .int v0_statement])), (h0_0, .inr (1, [.int v0_0_base, .int v0_0_range, .int v0_0_low, .int v0_0_start, .int v0_0_step])), (h0_1, .inr (0, [.ref h0_1_0, .int v0_1_size])), (h0_1_0, .inl (c0_1_0, 600, .inl g0_1_values))] H → va_D A [(h0, .inr (6, [.ref h0_0, .ref h0_1, .int v0_address, .int v0_file, .int v0_line, .int v0_column, .int v0_statement])), (h0_0, .inr (1, [.int v0_0_base, .int v0_0_range, .int v0_0_low, .int v0_0_start, .int v0_0_step])), (h0_1, .inr (0, [.ref h0_1_0, .int v0_1_size])), (h0_1_0, .inl (c0_1_0, 600, .inl g0_1_values))] → va_S A s.heap H locs → wj_Wr_writeSpecial_67 v0_0_base v0_0_range v0_0_low v0_1_size g0_1_values p0 p1 post postX  → W p l e (headSpec zs_Wr_writeSpecial zo_Wr_writeSpecial).room s m [.ref h0, .int p0, .int p1].toArray below meth c H locs 0 0 (tw_MQ below (va_Qv (fun (u : Int32 × (Nat → Int32)) => post u) (zb_Wr_writeSpecial dC dI A h0 h0_0 h0_1 h0_1_0 c0_1_0 v0_address v0_file v0_line v0_column v0_statement v0_0_base v0_0_range v0_0_low v0_0_start v0_0_step) A) (vx_X (fun (u : Nat × (Int32 × (Nat → Int32))) => postX u) (zx_Wr_writeSpecial dC dI A h0 h0_0 h0_1 h0_1_0 c0_1_0 v0_address v0_file v0_line v0_column v0_statement v0_0_base v0_0_range v0_0_low v0_0_start v0_0_step) A) [.ref h0, .int p0, .int p1].toArray s 0 0 1 6 A) (F0 m 67 ls []) := by
      intro  ls H locs hl hP hD hS hw
      unfold wj_Wr_writeSpecial_67 at hw
      refine lv_aload_n hx hb zd_Wr_writeSpecial_67 rfl (lv_at hl 1 rfl) ?_
      refine va_get (D := (dC, dI)) (ci := 6) (v := .ref h0_1) (C := zr_6) (T := zt_6) (N := 7) hx hb htb zi_6 hown hK hP 0 rfl rfl 1 (by decide) (htb _ zw_535) (fun _ h9 => h9) rfl zd_Wr_writeSpecial_68 ?_
      refine lv_iconst (v := 2) hx hb zd_Wr_writeSpecial_71 (by decide) ?_
      have hPc := hP.sub (ws' := [(h0_1, .inr (0, [.ref h0_1_0, .int v0_1_size])), (h0_1_0, .inl (c0_1_0, 600, .inl g0_1_values))]) [2, 3] rfl
      have hDc := hD.sub (ws' := [(h0_1, .inr (0, [.ref h0_1_0, .int v0_1_size])), (h0_1_0, .inl (c0_1_0, 600, .inl g0_1_values))]) [2, 3] (by decide) rfl
      have hKc := hK.sub (tys' := [(c0_1_0, .int)]) [0] rfl
      have hFc := va_free (wc := [(h0_1, .inr (0, [.ref h0_1_0, .int v0_1_size])), (h0_1_0, .inl (c0_1_0, 600, .inl g0_1_values))]) hD hS hA [2, 3] rfl
      refine tw_callv (tw_runV (As := [.int 2]) (rest := []) ⟨hx, hb, hml, hown, htb⟩ (mt_By_append l hl9 dC dI sa h0_1 h0_1_0 H.size c0_1_0 v0_1_size g0_1_values 2 _ _ hw) (cwV 1 htb (zgV zw_565 zw_164 zw_165 zw_3 zw_166) rfl rfl rfl (by decide +kernel) ⟨(Nat.le_of_ble_eq_true rfl), (Nat.le_of_ble_eq_true rfl)⟩) ⟨zPx_blind, va_recv (ci := 0) (q0 := 2) hK hP rfl rfl, zPx_pre hZ hS hFc hPc hKc hDc⟩ rfl rfl hl.1 rfl (lv_room (Nat.le_of_ble_eq_true rfl)) zd_Wr_writeSpecial_72 ⟨(Nat.le_of_ble_eq_true rfl), (Nat.le_of_ble_eq_true rfl)⟩) hS (fun q _ h => hFc q h) hFc (fun q _ h => hFc q h) (fun E9 ce9 q9 u48 t H1 locs ht hvm hw hB hz1 hk1 hS hce hcv hcl => ?_) (fun u48 t H1 locs ht hvm hw hB hz1 hk1 hS => ?_)
      · obtain ⟨hE, hB⟩ := hB
        obtain ⟨hP1, hK1, hD1⟩ := hB
        rw [ht] at hP1
        have hK1 := va_K.moved hvm.symm hK1
        obtain ⟨hP, hD⟩ := va_join (wr := [(h0, .inr (6, [.ref h0_0, .ref h0_1, .int v0_address, .int v0_file, .int v0_line, .int v0_column, .int v0_statement])), (h0_0, .inr (1, [.int v0_0_base, .int v0_0_range, .int v0_0_low, .int v0_0_start, .int v0_0_step]))]) (w1 := [(h0_1, .inr (0, [.ref h0_1_0, .int u48.2.1])), (h0_1_0, .inl (c0_1_0, 600, .inl u48.2.2))]) hP hD [2, 3] [0, 1] rfl rfl (by decide) (by decide) hk1 hFc hP1 hD1
        generalize H1 = H at hP hS hce ⊢
        have hP : va_P (dC, dI) zC [(h0, .inr (6, [.ref h0_0, .ref h0_1, .int v0_address, .int v0_file, .int v0_line, .int v0_column, .int v0_statement])), (h0_0, .inr (1, [.int v0_0_base, .int v0_0_range, .int v0_0_low, .int v0_0_start, .int v0_0_step])), (h0_1, .inr (0, [.ref h0_1_0, .int u48.2.1])), (h0_1_0, .inl (c0_1_0, 600, .inl u48.2.2))] H := hP
        have hD : va_D A [(h0, .inr (6, [.ref h0_0, .ref h0_1, .int v0_address, .int v0_file, .int v0_line, .int v0_column, .int v0_statement])), (h0_0, .inr (1, [.int v0_0_base, .int v0_0_range, .int v0_0_low, .int v0_0_start, .int v0_0_step])), (h0_1, .inr (0, [.ref h0_1_0, .int u48.2.1])), (h0_1_0, .inl (c0_1_0, 600, .inl u48.2.2))] := hD
        have hP9 := hP.sub (ws' := [(h0, .inr (6, [.ref h0_0, .ref h0_1, .int v0_address, .int v0_file, .int v0_line, .int v0_column, .int v0_statement])), (h0_0, .inr (1, [.int v0_0_base, .int v0_0_range, .int v0_0_low, .int v0_0_start, .int v0_0_step])), (h0_1, .inr (0, [.ref h0_1_0, .int u48.2.1])), (h0_1_0, .inl (c0_1_0, 600, .inl u48.2.2))]) [0, 1, 2, 3] rfl
        have hD9 := hD.sub (ws' := [(h0, .inr (6, [.ref h0_0, .ref h0_1, .int v0_address, .int v0_file, .int v0_line, .int v0_column, .int v0_statement])), (h0_0, .inr (1, [.int v0_0_base, .int v0_0_range, .int v0_0_low, .int v0_0_start, .int v0_0_step])), (h0_1, .inr (0, [.ref h0_1_0, .int u48.2.1])), (h0_1_0, .inl (c0_1_0, 600, .inl u48.2.2))]) [0, 1, 2, 3] (by decide) rfl
        have hK9 := hK.sub (tys' := [(c0_1_0, .int)]) [0] rfl
        exact tw_out (E := E9) (fun x hx => (hEx x hx).elim) hlocks hce hcv hcl (fun t ht ha => ⟨(u48.1, (u48.2.1, u48.2.2)), hw, ⟨hE, by rw [ht]; exact hP9, va_K.moved ha hK9, hD9⟩, hS.F ht⟩) hS.2.2 (Nat.le_of_ble_eq_true rfl) (Nat.le_of_ble_eq_true rfl)
      · skip
        obtain ⟨hP1, hK1, hD1⟩ := hB
        rw [ht] at hP1
        have hK1 := va_K.moved hvm.symm hK1
        obtain ⟨hP, hD⟩ := va_join (wr := [(h0, .inr (6, [.ref h0_0, .ref h0_1, .int v0_address, .int v0_file, .int v0_line, .int v0_column, .int v0_statement])), (h0_0, .inr (1, [.int v0_0_base, .int v0_0_range, .int v0_0_low, .int v0_0_start, .int v0_0_step]))]) (w1 := [(h0_1, .inr (0, [.ref h0_1_0, .int u48.1])), (h0_1_0, .inl (c0_1_0, 600, .inl u48.2))]) hP hD [2, 3] [0, 1] rfl rfl (by decide) (by decide) hk1 hFc hP1 hD1
        generalize H1 = H at hP hS ⊢
        have hP : va_P (dC, dI) zC [(h0, .inr (6, [.ref h0_0, .ref h0_1, .int v0_address, .int v0_file, .int v0_line, .int v0_column, .int v0_statement])), (h0_0, .inr (1, [.int v0_0_base, .int v0_0_range, .int v0_0_low, .int v0_0_start, .int v0_0_step])), (h0_1, .inr (0, [.ref h0_1_0, .int u48.1])), (h0_1_0, .inl (c0_1_0, 600, .inl u48.2))] H := hP
        have hD : va_D A [(h0, .inr (6, [.ref h0_0, .ref h0_1, .int v0_address, .int v0_file, .int v0_line, .int v0_column, .int v0_statement])), (h0_0, .inr (1, [.int v0_0_base, .int v0_0_range, .int v0_0_low, .int v0_0_start, .int v0_0_step])), (h0_1, .inr (0, [.ref h0_1_0, .int u48.1])), (h0_1_0, .inl (c0_1_0, 600, .inl u48.2))] := hD
        refine W.widen (k := 0) (n := 0) (Nat.le_of_ble_eq_true rfl) (Nat.le_of_ble_eq_true rfl) ?_
        refine lv_aload_n hx hb zd_Wr_writeSpecial_75 rfl (lv_at hl 1 rfl) ?_
        refine lv_iload_n hx hb zd_Wr_writeSpecial_76 rfl (lv_at hl 0 rfl) ?_
        have hPc := hP.sub (ws' := [(h0, .inr (6, [.ref h0_0, .ref h0_1, .int v0_address, .int v0_file, .int v0_line, .int v0_column, .int v0_statement])), (h0_0, .inr (1, [.int v0_0_base, .int v0_0_range, .int v0_0_low, .int v0_0_start, .int v0_0_step])), (h0_1, .inr (0, [.ref h0_1_0, .int u48.1])), (h0_1_0, .inl (c0_1_0, 600, .inl u48.2))]) [0, 1, 2, 3] rfl
        have hDc := hD.sub (ws' := [(h0, .inr (6, [.ref h0_0, .ref h0_1, .int v0_address, .int v0_file, .int v0_line, .int v0_column, .int v0_statement])), (h0_0, .inr (1, [.int v0_0_base, .int v0_0_range, .int v0_0_low, .int v0_0_start, .int v0_0_step])), (h0_1, .inr (0, [.ref h0_1_0, .int u48.1])), (h0_1_0, .inl (c0_1_0, 600, .inl u48.2))]) [0, 1, 2, 3] (by decide) rfl
        have hKc := hK.sub (tys' := [(c0_1_0, .int)]) [0] rfl
        have hFc := va_free (wc := [(h0, .inr (6, [.ref h0_0, .ref h0_1, .int v0_address, .int v0_file, .int v0_line, .int v0_column, .int v0_statement])), (h0_0, .inr (1, [.int v0_0_base, .int v0_0_range, .int v0_0_low, .int v0_0_start, .int v0_0_step])), (h0_1, .inr (0, [.ref h0_1_0, .int u48.1])), (h0_1_0, .inl (c0_1_0, 600, .inl u48.2))]) hD hS hA [0, 1, 2, 3] rfl
        refine tw_callv (tw_runV (As := [.int p0]) (rest := []) ⟨hx, hb, hml, hown, htb⟩ (mt_Wr_writeUnsigned l hl9 dC dI sa h0 h0_0 h0_1 h0_1_0 H.size c0_1_0 v0_address v0_file v0_line v0_column v0_statement v0_0_base v0_0_range v0_0_low v0_0_start v0_0_step u48.1 u48.2 p0 _ _ hw) (cwV 1 htb (zgV zw_570 zw_572 zp_Wr_writeUnsigned zw_18 zw_573) rfl rfl rfl (by decide +kernel) ⟨(Nat.le_of_ble_eq_true rfl), (Nat.le_of_ble_eq_true rfl)⟩) ⟨zPx_blind, va_recv (ci := 6) (q0 := 0) hK hP rfl rfl, zPx_pre hZ hS hFc hPc hKc hDc⟩ rfl rfl hl.1 rfl (lv_room (Nat.le_of_ble_eq_true rfl)) zd_Wr_writeSpecial_77 ⟨(Nat.le_of_ble_eq_true rfl), (Nat.le_of_ble_eq_true rfl)⟩) hS (fun q _ h => hFc q h) hFc (fun q _ h => hFc q h) (fun E9 ce9 q9 u51 t H1 locs ht hvm hw hB hz1 hk1 hS hce hcv hcl => ?_) (fun u51 t H1 locs ht hvm hw hB hz1 hk1 hS => ?_)
        · obtain ⟨hE, hB⟩ := hB
          obtain ⟨hP1, hK1, hD1⟩ := hB
          rw [ht] at hP1
          have hK1 := va_K.moved hvm.symm hK1
          obtain ⟨hP, hD⟩ := va_join (wr := []) (w1 := [(h0, .inr (6, [.ref h0_0, .ref h0_1, .int v0_address, .int v0_file, .int v0_line, .int v0_column, .int v0_statement])), (h0_0, .inr (1, [.int v0_0_base, .int v0_0_range, .int v0_0_low, .int v0_0_start, .int v0_0_step])), (h0_1, .inr (0, [.ref h0_1_0, .int u51.2.1])), (h0_1_0, .inl (c0_1_0, 600, .inl u51.2.2))]) hP hD [0, 1, 2, 3] [] rfl rfl (by decide) (by decide) hk1 hFc hP1 hD1
          generalize H1 = H at hP hS hce ⊢
          have hP : va_P (dC, dI) zC [(h0, .inr (6, [.ref h0_0, .ref h0_1, .int v0_address, .int v0_file, .int v0_line, .int v0_column, .int v0_statement])), (h0_0, .inr (1, [.int v0_0_base, .int v0_0_range, .int v0_0_low, .int v0_0_start, .int v0_0_step])), (h0_1, .inr (0, [.ref h0_1_0, .int u51.2.1])), (h0_1_0, .inl (c0_1_0, 600, .inl u51.2.2))] H := hP
          have hD : va_D A [(h0, .inr (6, [.ref h0_0, .ref h0_1, .int v0_address, .int v0_file, .int v0_line, .int v0_column, .int v0_statement])), (h0_0, .inr (1, [.int v0_0_base, .int v0_0_range, .int v0_0_low, .int v0_0_start, .int v0_0_step])), (h0_1, .inr (0, [.ref h0_1_0, .int u51.2.1])), (h0_1_0, .inl (c0_1_0, 600, .inl u51.2.2))] := hD
          have hP9 := hP.sub (ws' := [(h0, .inr (6, [.ref h0_0, .ref h0_1, .int v0_address, .int v0_file, .int v0_line, .int v0_column, .int v0_statement])), (h0_0, .inr (1, [.int v0_0_base, .int v0_0_range, .int v0_0_low, .int v0_0_start, .int v0_0_step])), (h0_1, .inr (0, [.ref h0_1_0, .int u51.2.1])), (h0_1_0, .inl (c0_1_0, 600, .inl u51.2.2))]) [0, 1, 2, 3] rfl
          have hD9 := hD.sub (ws' := [(h0, .inr (6, [.ref h0_0, .ref h0_1, .int v0_address, .int v0_file, .int v0_line, .int v0_column, .int v0_statement])), (h0_0, .inr (1, [.int v0_0_base, .int v0_0_range, .int v0_0_low, .int v0_0_start, .int v0_0_step])), (h0_1, .inr (0, [.ref h0_1_0, .int u51.2.1])), (h0_1_0, .inl (c0_1_0, 600, .inl u51.2.2))]) [0, 1, 2, 3] (by decide) rfl
          have hK9 := hK.sub (tys' := [(c0_1_0, .int)]) [0] rfl
          exact tw_out (E := E9) (fun x hx => (hEx x hx).elim) hlocks hce hcv hcl (fun t ht ha => ⟨(u51.1, (u51.2.1, u51.2.2)), hw, ⟨hE, by rw [ht]; exact hP9, va_K.moved ha hK9, hD9⟩, hS.F ht⟩) hS.2.2 (Nat.le_of_ble_eq_true rfl) (Nat.le_of_ble_eq_true rfl)
        · skip
          obtain ⟨hP1, hK1, hD1⟩ := hB
          rw [ht] at hP1
          have hK1 := va_K.moved hvm.symm hK1
          obtain ⟨hP, hD⟩ := va_join (wr := []) (w1 := [(h0, .inr (6, [.ref h0_0, .ref h0_1, .int v0_address, .int v0_file, .int v0_line, .int v0_column, .int v0_statement])), (h0_0, .inr (1, [.int v0_0_base, .int v0_0_range, .int v0_0_low, .int v0_0_start, .int v0_0_step])), (h0_1, .inr (0, [.ref h0_1_0, .int u51.1])), (h0_1_0, .inl (c0_1_0, 600, .inl u51.2))]) hP hD [0, 1, 2, 3] [] rfl rfl (by decide) (by decide) hk1 hFc hP1 hD1
          generalize H1 = H at hP hS ⊢
          have hP : va_P (dC, dI) zC [(h0, .inr (6, [.ref h0_0, .ref h0_1, .int v0_address, .int v0_file, .int v0_line, .int v0_column, .int v0_statement])), (h0_0, .inr (1, [.int v0_0_base, .int v0_0_range, .int v0_0_low, .int v0_0_start, .int v0_0_step])), (h0_1, .inr (0, [.ref h0_1_0, .int u51.1])), (h0_1_0, .inl (c0_1_0, 600, .inl u51.2))] H := hP
          have hD : va_D A [(h0, .inr (6, [.ref h0_0, .ref h0_1, .int v0_address, .int v0_file, .int v0_line, .int v0_column, .int v0_statement])), (h0_0, .inr (1, [.int v0_0_base, .int v0_0_range, .int v0_0_low, .int v0_0_start, .int v0_0_step])), (h0_1, .inr (0, [.ref h0_1_0, .int u51.1])), (h0_1_0, .inl (c0_1_0, 600, .inl u51.2))] := hD
          refine W.widen (k := 0) (n := 0) (Nat.le_of_ble_eq_true rfl) (Nat.le_of_ble_eq_true rfl) ?_
          refine lv_iconst (v := 0) hx hb zd_Wr_writeSpecial_80 (by decide) ?_
          refine lv_istore_n (i := 3) (lv' := [(3, .int 0), (0, .ref h0), (1, .int p0), (2, .int p1)]) hx hb zd_Wr_writeSpecial_81 rfl hl (by decide) rfl (fun ls hl => ?_)
          refine lv_aload_n hx hb zd_Wr_writeSpecial_82 rfl (lv_at hl 1 rfl) ?_
          refine va_get (D := (dC, dI)) (ci := 6) (v := .ref h0_1) (C := zr_6) (T := zt_6) (N := 7) hx hb htb zi_6 hown hK hP 0 rfl rfl 1 (by decide) (htb _ zw_535) (fun _ h9 => h9) rfl zd_Wr_writeSpecial_83 ?_
          refine lv_aload_n hx hb zd_Wr_writeSpecial_86 rfl (lv_at hl 1 rfl) ?_
          refine lv_iload_n hx hb zd_Wr_writeSpecial_87 rfl (lv_at hl 0 rfl) ?_
          refine lv_iload_n hx hb zd_Wr_writeSpecial_88 rfl (lv_at hl 3 rfl) ?_
          have hPc := hP.sub (ws' := [(h0, .inr (6, [.ref h0_0, .ref h0_1, .int v0_address, .int v0_file, .int v0_line, .int v0_column, .int v0_statement])), (h0_0, .inr (1, [.int v0_0_base, .int v0_0_range, .int v0_0_low, .int v0_0_start, .int v0_0_step])), (h0_1, .inr (0, [.ref h0_1_0, .int u51.1])), (h0_1_0, .inl (c0_1_0, 600, .inl u51.2))]) [0, 1, 2, 3] rfl
          have hDc := hD.sub (ws' := [(h0, .inr (6, [.ref h0_0, .ref h0_1, .int v0_address, .int v0_file, .int v0_line, .int v0_column, .int v0_statement])), (h0_0, .inr (1, [.int v0_0_base, .int v0_0_range, .int v0_0_low, .int v0_0_start, .int v0_0_step])), (h0_1, .inr (0, [.ref h0_1_0, .int u51.1])), (h0_1_0, .inl (c0_1_0, 600, .inl u51.2))]) [0, 1, 2, 3] (by decide) rfl
          have hKc := hK.sub (tys' := [(c0_1_0, .int)]) [0] rfl
          have hFc := va_free (wc := [(h0, .inr (6, [.ref h0_0, .ref h0_1, .int v0_address, .int v0_file, .int v0_line, .int v0_column, .int v0_statement])), (h0_0, .inr (1, [.int v0_0_base, .int v0_0_range, .int v0_0_low, .int v0_0_start, .int v0_0_step])), (h0_1, .inr (0, [.ref h0_1_0, .int u51.1])), (h0_1_0, .inl (c0_1_0, 600, .inl u51.2))]) hD hS hA [0, 1, 2, 3] rfl
          refine va_calll (va_runV (As := [.int 0, .int p1]) (rest := [.ref h0_1]) ⟨hx, hb, hml, hown, htb⟩ (mt_Wr_special l dC dI h0 h0_0 h0_1 h0_1_0 H.size c0_1_0 v0_address v0_file v0_line v0_column v0_statement v0_0_base v0_0_range v0_0_low v0_0_start v0_0_step u51.1 u51.2 0 p1 _ hw) (cwV 2 htb (zgV zw_594 zw_596 zp_Wr_special zw_18 zw_597) rfl rfl rfl (by decide +kernel) ⟨(Nat.le_of_ble_eq_true rfl), (Nat.le_of_ble_eq_true rfl)⟩) ⟨zP_blind, va_recv (ci := 6) (q0 := 0) hK hP rfl rfl, zP_pre hPc hKc hDc⟩ rfl rfl hl.1 rfl (lv_room (Nat.le_of_ble_eq_true rfl)) zd_Wr_writeSpecial_89 ⟨(Nat.le_of_ble_eq_true rfl), (Nat.le_of_ble_eq_true rfl)⟩) hS (fun q _ h => hFc q h) hFc (fun x55 u54 t H1 locs ht hvm hw hB hz1 hk1 hS => ?_)
          obtain ⟨hP1, hK1, hD1⟩ := hB
          rw [ht] at hP1
          have hK1 := va_K.moved hvm.symm hK1
          obtain ⟨hP, hD⟩ := va_join (wr := []) (w1 := [(h0, .inr (6, [.ref h0_0, .ref h0_1, .int v0_address, .int v0_file, .int v0_line, .int v0_column, .int v0_statement])), (h0_0, .inr (1, [.int v0_0_base, .int v0_0_range, .int v0_0_low, .int v0_0_start, .int v0_0_step])), (h0_1, .inr (0, [.ref h0_1_0, .int u51.1])), (h0_1_0, .inl (c0_1_0, 600, .inl u51.2))]) hP hD [0, 1, 2, 3] [] rfl rfl (by decide) (by decide) hk1 hFc hP1 hD1
          generalize H1 = H at hP hS ⊢
          have hP : va_P (dC, dI) zC [(h0, .inr (6, [.ref h0_0, .ref h0_1, .int v0_address, .int v0_file, .int v0_line, .int v0_column, .int v0_statement])), (h0_0, .inr (1, [.int v0_0_base, .int v0_0_range, .int v0_0_low, .int v0_0_start, .int v0_0_step])), (h0_1, .inr (0, [.ref h0_1_0, .int u51.1])), (h0_1_0, .inl (c0_1_0, 600, .inl u51.2))] H := hP
          have hD : va_D A [(h0, .inr (6, [.ref h0_0, .ref h0_1, .int v0_address, .int v0_file, .int v0_line, .int v0_column, .int v0_statement])), (h0_0, .inr (1, [.int v0_0_base, .int v0_0_range, .int v0_0_low, .int v0_0_start, .int v0_0_step])), (h0_1, .inr (0, [.ref h0_1_0, .int u51.1])), (h0_1_0, .inl (c0_1_0, 600, .inl u51.2))] := hD
          refine W.widen (k := 0) (n := 0) (Nat.le_of_ble_eq_true rfl) (Nat.le_of_ble_eq_true rfl) ?_
          refine lv_l2i hx hb zd_Wr_writeSpecial_92 rfl ?_
          refine lv_topi (fun x57 ex57 => ?_)
          have hw := hw x57 ex57
          have hPc := hP.sub (ws' := [(h0_1, .inr (0, [.ref h0_1_0, .int u51.1])), (h0_1_0, .inl (c0_1_0, 600, .inl u51.2))]) [2, 3] rfl
          have hDc := hD.sub (ws' := [(h0_1, .inr (0, [.ref h0_1_0, .int u51.1])), (h0_1_0, .inl (c0_1_0, 600, .inl u51.2))]) [2, 3] (by decide) rfl
          have hKc := hK.sub (tys' := [(c0_1_0, .int)]) [0] rfl
          have hFc := va_free (wc := [(h0_1, .inr (0, [.ref h0_1_0, .int u51.1])), (h0_1_0, .inl (c0_1_0, 600, .inl u51.2))]) hD hS hA [2, 3] rfl
          refine tw_callv (tw_runV (As := [.int x57]) (rest := []) ⟨hx, hb, hml, hown, htb⟩ (mt_By_append l hl9 dC dI sa h0_1 h0_1_0 H.size c0_1_0 u51.1 u51.2 x57 _ _ hw) (cwV 1 htb (zgV zw_565 zw_164 zw_165 zw_3 zw_166) rfl rfl rfl (by decide +kernel) ⟨(Nat.le_of_ble_eq_true rfl), (Nat.le_of_ble_eq_true rfl)⟩) ⟨zPx_blind, va_recv (ci := 0) (q0 := 2) hK hP rfl rfl, zPx_pre hZ hS hFc hPc hKc hDc⟩ rfl rfl hl.1 rfl (lv_room (Nat.le_of_ble_eq_true rfl)) zd_Wr_writeSpecial_93 ⟨(Nat.le_of_ble_eq_true rfl), (Nat.le_of_ble_eq_true rfl)⟩) hS (fun q _ h => hFc q h) hFc (fun q _ h => hFc q h) (fun E9 ce9 q9 u58 t H1 locs ht hvm hw hB hz1 hk1 hS hce hcv hcl => ?_) (fun u58 t H1 locs ht hvm hw hB hz1 hk1 hS => ?_)
          · obtain ⟨hE, hB⟩ := hB
            obtain ⟨hP1, hK1, hD1⟩ := hB
            rw [ht] at hP1
            have hK1 := va_K.moved hvm.symm hK1
            obtain ⟨hP, hD⟩ := va_join (wr := [(h0, .inr (6, [.ref h0_0, .ref h0_1, .int v0_address, .int v0_file, .int v0_line, .int v0_column, .int v0_statement])), (h0_0, .inr (1, [.int v0_0_base, .int v0_0_range, .int v0_0_low, .int v0_0_start, .int v0_0_step]))]) (w1 := [(h0_1, .inr (0, [.ref h0_1_0, .int u58.2.1])), (h0_1_0, .inl (c0_1_0, 600, .inl u58.2.2))]) hP hD [2, 3] [0, 1] rfl rfl (by decide) (by decide) hk1 hFc hP1 hD1
            generalize H1 = H at hP hS hce ⊢
            have hP : va_P (dC, dI) zC [(h0, .inr (6, [.ref h0_0, .ref h0_1, .int v0_address, .int v0_file, .int v0_line, .int v0_column, .int v0_statement])), (h0_0, .inr (1, [.int v0_0_base, .int v0_0_range, .int v0_0_low, .int v0_0_start, .int v0_0_step])), (h0_1, .inr (0, [.ref h0_1_0, .int u58.2.1])), (h0_1_0, .inl (c0_1_0, 600, .inl u58.2.2))] H := hP
            have hD : va_D A [(h0, .inr (6, [.ref h0_0, .ref h0_1, .int v0_address, .int v0_file, .int v0_line, .int v0_column, .int v0_statement])), (h0_0, .inr (1, [.int v0_0_base, .int v0_0_range, .int v0_0_low, .int v0_0_start, .int v0_0_step])), (h0_1, .inr (0, [.ref h0_1_0, .int u58.2.1])), (h0_1_0, .inl (c0_1_0, 600, .inl u58.2.2))] := hD
            have hP9 := hP.sub (ws' := [(h0, .inr (6, [.ref h0_0, .ref h0_1, .int v0_address, .int v0_file, .int v0_line, .int v0_column, .int v0_statement])), (h0_0, .inr (1, [.int v0_0_base, .int v0_0_range, .int v0_0_low, .int v0_0_start, .int v0_0_step])), (h0_1, .inr (0, [.ref h0_1_0, .int u58.2.1])), (h0_1_0, .inl (c0_1_0, 600, .inl u58.2.2))]) [0, 1, 2, 3] rfl
            have hD9 := hD.sub (ws' := [(h0, .inr (6, [.ref h0_0, .ref h0_1, .int v0_address, .int v0_file, .int v0_line, .int v0_column, .int v0_statement])), (h0_0, .inr (1, [.int v0_0_base, .int v0_0_range, .int v0_0_low, .int v0_0_start, .int v0_0_step])), (h0_1, .inr (0, [.ref h0_1_0, .int u58.2.1])), (h0_1_0, .inl (c0_1_0, 600, .inl u58.2.2))]) [0, 1, 2, 3] (by decide) rfl
            have hK9 := hK.sub (tys' := [(c0_1_0, .int)]) [0] rfl
            exact tw_out (E := E9) (fun x hx => (hEx x hx).elim) hlocks hce hcv hcl (fun t ht ha => ⟨(u58.1, (u58.2.1, u58.2.2)), hw, ⟨hE, by rw [ht]; exact hP9, va_K.moved ha hK9, hD9⟩, hS.F ht⟩) hS.2.2 (Nat.le_of_ble_eq_true rfl) (Nat.le_of_ble_eq_true rfl)
          · skip
            obtain ⟨hP1, hK1, hD1⟩ := hB
            rw [ht] at hP1
            have hK1 := va_K.moved hvm.symm hK1
            obtain ⟨hP, hD⟩ := va_join (wr := [(h0, .inr (6, [.ref h0_0, .ref h0_1, .int v0_address, .int v0_file, .int v0_line, .int v0_column, .int v0_statement])), (h0_0, .inr (1, [.int v0_0_base, .int v0_0_range, .int v0_0_low, .int v0_0_start, .int v0_0_step]))]) (w1 := [(h0_1, .inr (0, [.ref h0_1_0, .int u58.1])), (h0_1_0, .inl (c0_1_0, 600, .inl u58.2))]) hP hD [2, 3] [0, 1] rfl rfl (by decide) (by decide) hk1 hFc hP1 hD1
            generalize H1 = H at hP hS ⊢
            have hP : va_P (dC, dI) zC [(h0, .inr (6, [.ref h0_0, .ref h0_1, .int v0_address, .int v0_file, .int v0_line, .int v0_column, .int v0_statement])), (h0_0, .inr (1, [.int v0_0_base, .int v0_0_range, .int v0_0_low, .int v0_0_start, .int v0_0_step])), (h0_1, .inr (0, [.ref h0_1_0, .int u58.1])), (h0_1_0, .inl (c0_1_0, 600, .inl u58.2))] H := hP
            have hD : va_D A [(h0, .inr (6, [.ref h0_0, .ref h0_1, .int v0_address, .int v0_file, .int v0_line, .int v0_column, .int v0_statement])), (h0_0, .inr (1, [.int v0_0_base, .int v0_0_range, .int v0_0_low, .int v0_0_start, .int v0_0_step])), (h0_1, .inr (0, [.ref h0_1_0, .int u58.1])), (h0_1_0, .inl (c0_1_0, 600, .inl u58.2))] := hD
            refine W.widen (k := 0) (n := 0) (Nat.le_of_ble_eq_true rfl) (Nat.le_of_ble_eq_true rfl) ?_
            have hP9 := hP.sub (ws' := [(h0, .inr (6, [.ref h0_0, .ref h0_1, .int v0_address, .int v0_file, .int v0_line, .int v0_column, .int v0_statement])), (h0_0, .inr (1, [.int v0_0_base, .int v0_0_range, .int v0_0_low, .int v0_0_start, .int v0_0_step])), (h0_1, .inr (0, [.ref h0_1_0, .int u58.1])), (h0_1_0, .inl (c0_1_0, 600, .inl u58.2))]) [0, 1, 2, 3] rfl
            have hD9 := hD.sub (ws' := [(h0, .inr (6, [.ref h0_0, .ref h0_1, .int v0_address, .int v0_file, .int v0_line, .int v0_column, .int v0_statement])), (h0_0, .inr (1, [.int v0_0_base, .int v0_0_range, .int v0_0_low, .int v0_0_start, .int v0_0_step])), (h0_1, .inr (0, [.ref h0_1_0, .int u58.1])), (h0_1_0, .inl (c0_1_0, 600, .inl u58.2))]) [0, 1, 2, 3] (by decide) rfl
            have hK9 := hK.sub (tys' := [(c0_1_0, .int)]) [0] rfl
            refine W.widen (k := 0) (n := 0) (Nat.le_of_ble_eq_true rfl) (Nat.le_of_ble_eq_true rfl) ?_
            refine tw_ret ?_
            exact W.vret hx hb hr (fun t ht hW => ⟨⟨(u58.1, u58.2), rfl, hw, by rw [ht]; exact hP9, va_K.moved hW.alike hK9, hD9⟩, hS.F ht⟩) hS.2.2 zd_Wr_writeSpecial_96
    refine lv_icmp_lt (tgt := 67) hx hb zd_Wr_writeSpecial_22 (by decide) (fun h61 => ?_) (fun h61 => ?_)
    · have hw := hw.1 h61
      exact jn67  ls H _ (lv_sub hl [0, 1, 2, 3] rfl) (hP.sub (ws' := [(h0, .inr (6, [.ref h0_0, .ref h0_1, .int v0_address, .int v0_file, .int v0_line, .int v0_column, .int v0_statement])), (h0_0, .inr (1, [.int v0_0_base, .int v0_0_range, .int v0_0_low, .int v0_0_start, .int v0_0_step])), (h0_1, .inr (0, [.ref h0_1_0, .int v0_1_size])), (h0_1_0, .inl (c0_1_0, 600, .inl g0_1_values))]) [0, 1, 2, 3] rfl) (hD.sub (ws' := [(h0, .inr (6, [.ref h0_0, .ref h0_1, .int v0_address, .int v0_file, .int v0_line, .int v0_column, .int v0_statement])), (h0_0, .inr (1, [.int v0_0_base, .int v0_0_range, .int v0_0_low, .int v0_0_start, .int v0_0_step])), (h0_1, .inr (0, [.ref h0_1_0, .int v0_1_size])), (h0_1_0, .inl (c0_1_0, 600, .inl g0_1_values))]) [0, 1, 2, 3] (by decide) rfl) hS hw
    · have hw := hw.2 h61
      refine lv_aload_n hx hb zd_Wr_writeSpecial_25 rfl (lv_at hl 1 rfl) ?_
      refine lv_iload_n hx hb zd_Wr_writeSpecial_26 rfl (lv_at hl 0 rfl) ?_
      refine lv_aload_n hx hb zd_Wr_writeSpecial_27 rfl (lv_at hl 1 rfl) ?_
      refine va_get (D := (dC, dI)) (ci := 6) (v := .ref h0_0) (C := zr_6) (T := zt_6) (N := 7) hx hb htb zi_6 hown hK hP 0 rfl rfl 0 (by decide) (htb _ zw_534) (fun _ h9 => h9) rfl zd_Wr_writeSpecial_28 ?_
      refine va_get (D := (dC, dI)) (ci := 1) (v := .int v0_0_step) (C := zr_1) (T := zt_1) (N := 5) hx hb htb zi_1 hown hK hP 1 rfl rfl 4 (by decide) (htb _ zw_47) (fun _ h9 => h9) rfl zd_Wr_writeSpecial_31 ?_
      refine lv_isub hx hb zd_Wr_writeSpecial_34 ?_
      refine lv_topi (fun x62 ex62 => ?_)
      have hw := hw x62 ex62
      refine lv_iload_n hx hb zd_Wr_writeSpecial_35 rfl (lv_at hl 3 rfl) ?_
      have hPc := hP.sub (ws' := [(h0, .inr (6, [.ref h0_0, .ref h0_1, .int v0_address, .int v0_file, .int v0_line, .int v0_column, .int v0_statement])), (h0_0, .inr (1, [.int v0_0_base, .int v0_0_range, .int v0_0_low, .int v0_0_start, .int v0_0_step])), (h0_1, .inr (0, [.ref h0_1_0, .int v0_1_size])), (h0_1_0, .inl (c0_1_0, 600, .inl g0_1_values))]) [0, 1, 2, 3] rfl
      have hDc := hD.sub (ws' := [(h0, .inr (6, [.ref h0_0, .ref h0_1, .int v0_address, .int v0_file, .int v0_line, .int v0_column, .int v0_statement])), (h0_0, .inr (1, [.int v0_0_base, .int v0_0_range, .int v0_0_low, .int v0_0_start, .int v0_0_step])), (h0_1, .inr (0, [.ref h0_1_0, .int v0_1_size])), (h0_1_0, .inl (c0_1_0, 600, .inl g0_1_values))]) [0, 1, 2, 3] (by decide) rfl
      have hKc := hK.sub (tys' := [(c0_1_0, .int)]) [0] rfl
      have hFc := va_free (wc := [(h0, .inr (6, [.ref h0_0, .ref h0_1, .int v0_address, .int v0_file, .int v0_line, .int v0_column, .int v0_statement])), (h0_0, .inr (1, [.int v0_0_base, .int v0_0_range, .int v0_0_low, .int v0_0_start, .int v0_0_step])), (h0_1, .inr (0, [.ref h0_1_0, .int v0_1_size])), (h0_1_0, .inl (c0_1_0, 600, .inl g0_1_values))]) hD hS hA [0, 1, 2, 3] rfl
      refine va_calll (va_runV (As := [.int x62, .int p1]) (rest := []) ⟨hx, hb, hml, hown, htb⟩ (mt_Wr_special l dC dI h0 h0_0 h0_1 h0_1_0 H.size c0_1_0 v0_address v0_file v0_line v0_column v0_statement v0_0_base v0_0_range v0_0_low v0_0_start v0_0_step v0_1_size g0_1_values x62 p1 _ hw) (cwV 2 htb (zgV zw_594 zw_596 zp_Wr_special zw_18 zw_597) rfl rfl rfl (by decide +kernel) ⟨(Nat.le_of_ble_eq_true rfl), (Nat.le_of_ble_eq_true rfl)⟩) ⟨zP_blind, va_recv (ci := 6) (q0 := 0) hK hP rfl rfl, zP_pre hPc hKc hDc⟩ rfl rfl hl.1 rfl (lv_room (Nat.le_of_ble_eq_true rfl)) zd_Wr_writeSpecial_36 ⟨(Nat.le_of_ble_eq_true rfl), (Nat.le_of_ble_eq_true rfl)⟩) hS (fun q _ h => hFc q h) hFc (fun x64 u63 t H1 locs ht hvm hw hB hz1 hk1 hS => ?_)
      obtain ⟨hP1, hK1, hD1⟩ := hB
      rw [ht] at hP1
      have hK1 := va_K.moved hvm.symm hK1
      obtain ⟨hP, hD⟩ := va_join (wr := []) (w1 := [(h0, .inr (6, [.ref h0_0, .ref h0_1, .int v0_address, .int v0_file, .int v0_line, .int v0_column, .int v0_statement])), (h0_0, .inr (1, [.int v0_0_base, .int v0_0_range, .int v0_0_low, .int v0_0_start, .int v0_0_step])), (h0_1, .inr (0, [.ref h0_1_0, .int v0_1_size])), (h0_1_0, .inl (c0_1_0, 600, .inl g0_1_values))]) hP hD [0, 1, 2, 3] [] rfl rfl (by decide) (by decide) hk1 hFc hP1 hD1
      generalize H1 = H at hP hS ⊢
      have hP : va_P (dC, dI) zC [(h0, .inr (6, [.ref h0_0, .ref h0_1, .int v0_address, .int v0_file, .int v0_line, .int v0_column, .int v0_statement])), (h0_0, .inr (1, [.int v0_0_base, .int v0_0_range, .int v0_0_low, .int v0_0_start, .int v0_0_step])), (h0_1, .inr (0, [.ref h0_1_0, .int v0_1_size])), (h0_1_0, .inl (c0_1_0, 600, .inl g0_1_values))] H := hP
      have hD : va_D A [(h0, .inr (6, [.ref h0_0, .ref h0_1, .int v0_address, .int v0_file, .int v0_line, .int v0_column, .int v0_statement])), (h0_0, .inr (1, [.int v0_0_base, .int v0_0_range, .int v0_0_low, .int v0_0_start, .int v0_0_step])), (h0_1, .inr (0, [.ref h0_1_0, .int v0_1_size])), (h0_1_0, .inl (c0_1_0, 600, .inl g0_1_values))] := hD
      refine W.widen (k := 0) (n := 0) (Nat.le_of_ble_eq_true rfl) (Nat.le_of_ble_eq_true rfl) ?_
      have hPc := hP.sub (ws' := []) [] rfl
      have hDc := hD.sub (ws' := []) [] (by decide) rfl
      have hKc := hK.sub (tys' := []) [] rfl
      have hFc := va_free (wc := []) hD hS hA [] rfl
      refine va_calli (va_runS (As := [.long x64]) (rest := []) ⟨hx, hb, hml, hown, htb⟩ (mt_Wr_isByte l dC dI H.size x64 _ hw) (va_cwS 1 htb (zgS zw_598 zw_599 zw_18 zw_600) rfl rfl rfl (by decide +kernel) ⟨(Nat.le_of_ble_eq_true rfl), (Nat.le_of_ble_eq_true rfl)⟩) ⟨zP_blind, zP_pre hPc hKc hDc⟩ rfl rfl hl.1 rfl (lv_room (Nat.le_of_ble_eq_true rfl)) zd_Wr_writeSpecial_39 ⟨(Nat.le_of_ble_eq_true rfl), (Nat.le_of_ble_eq_true rfl)⟩) hS (fun q _ h => hFc q h) hFc (fun x67 u66 t H1 locs ht hvm hw hB hz1 hk1 hS => ?_)
      obtain ⟨hP1, hK1, hD1⟩ := hB
      rw [ht] at hP1
      have hK1 := va_K.moved hvm.symm hK1
      obtain ⟨hP, hD⟩ := va_join (wr := [(h0, .inr (6, [.ref h0_0, .ref h0_1, .int v0_address, .int v0_file, .int v0_line, .int v0_column, .int v0_statement])), (h0_0, .inr (1, [.int v0_0_base, .int v0_0_range, .int v0_0_low, .int v0_0_start, .int v0_0_step])), (h0_1, .inr (0, [.ref h0_1_0, .int v0_1_size])), (h0_1_0, .inl (c0_1_0, 600, .inl g0_1_values))]) (w1 := []) hP hD [] [0, 1, 2, 3] rfl rfl (by decide) (by decide) hk1 hFc hP1 hD1
      generalize H1 = H at hP hS ⊢
      have hP : va_P (dC, dI) zC [(h0, .inr (6, [.ref h0_0, .ref h0_1, .int v0_address, .int v0_file, .int v0_line, .int v0_column, .int v0_statement])), (h0_0, .inr (1, [.int v0_0_base, .int v0_0_range, .int v0_0_low, .int v0_0_start, .int v0_0_step])), (h0_1, .inr (0, [.ref h0_1_0, .int v0_1_size])), (h0_1_0, .inl (c0_1_0, 600, .inl g0_1_values))] H := hP
      have hD : va_D A [(h0, .inr (6, [.ref h0_0, .ref h0_1, .int v0_address, .int v0_file, .int v0_line, .int v0_column, .int v0_statement])), (h0_0, .inr (1, [.int v0_0_base, .int v0_0_range, .int v0_0_low, .int v0_0_start, .int v0_0_step])), (h0_1, .inr (0, [.ref h0_1_0, .int v0_1_size])), (h0_1_0, .inl (c0_1_0, 600, .inl g0_1_values))] := hD
      refine W.widen (k := 0) (n := 0) (Nat.le_of_ble_eq_true rfl) (Nat.le_of_ble_eq_true rfl) ?_
      refine lv_if_eq (tgt := 67) hx hb zd_Wr_writeSpecial_42 (by decide) (fun h69 => ?_) (fun h69 => ?_)
      · have hw := hw.1 h69
        exact jn67  ls H _ (lv_sub hl [0, 1, 2, 3] rfl) (hP.sub (ws' := [(h0, .inr (6, [.ref h0_0, .ref h0_1, .int v0_address, .int v0_file, .int v0_line, .int v0_column, .int v0_statement])), (h0_0, .inr (1, [.int v0_0_base, .int v0_0_range, .int v0_0_low, .int v0_0_start, .int v0_0_step])), (h0_1, .inr (0, [.ref h0_1_0, .int v0_1_size])), (h0_1_0, .inl (c0_1_0, 600, .inl g0_1_values))]) [0, 1, 2, 3] rfl) (hD.sub (ws' := [(h0, .inr (6, [.ref h0_0, .ref h0_1, .int v0_address, .int v0_file, .int v0_line, .int v0_column, .int v0_statement])), (h0_0, .inr (1, [.int v0_0_base, .int v0_0_range, .int v0_0_low, .int v0_0_start, .int v0_0_step])), (h0_1, .inr (0, [.ref h0_1_0, .int v0_1_size])), (h0_1_0, .inl (c0_1_0, 600, .inl g0_1_values))]) [0, 1, 2, 3] (by decide) rfl) hS hw
      · have hw := hw.2 h69
        refine lv_aload_n hx hb zd_Wr_writeSpecial_45 rfl (lv_at hl 1 rfl) ?_
        refine va_get (D := (dC, dI)) (ci := 6) (v := .ref h0_1) (C := zr_6) (T := zt_6) (N := 7) hx hb htb zi_6 hown hK hP 0 rfl rfl 1 (by decide) (htb _ zw_535) (fun _ h9 => h9) rfl zd_Wr_writeSpecial_46 ?_
        refine lv_bipush (v := 8) hx hb zd_Wr_writeSpecial_49 (by decide) ?_
        have hPc := hP.sub (ws' := [(h0_1, .inr (0, [.ref h0_1_0, .int v0_1_size])), (h0_1_0, .inl (c0_1_0, 600, .inl g0_1_values))]) [2, 3] rfl
        have hDc := hD.sub (ws' := [(h0_1, .inr (0, [.ref h0_1_0, .int v0_1_size])), (h0_1_0, .inl (c0_1_0, 600, .inl g0_1_values))]) [2, 3] (by decide) rfl
        have hKc := hK.sub (tys' := [(c0_1_0, .int)]) [0] rfl
        have hFc := va_free (wc := [(h0_1, .inr (0, [.ref h0_1_0, .int v0_1_size])), (h0_1_0, .inl (c0_1_0, 600, .inl g0_1_values))]) hD hS hA [2, 3] rfl
        refine tw_callv (tw_runV (As := [.int 8]) (rest := []) ⟨hx, hb, hml, hown, htb⟩ (mt_By_append l hl9 dC dI sa h0_1 h0_1_0 H.size c0_1_0 v0_1_size g0_1_values 8 _ _ hw) (cwV 1 htb (zgV zw_565 zw_164 zw_165 zw_3 zw_166) rfl rfl rfl (by decide +kernel) ⟨(Nat.le_of_ble_eq_true rfl), (Nat.le_of_ble_eq_true rfl)⟩) ⟨zPx_blind, va_recv (ci := 0) (q0 := 2) hK hP rfl rfl, zPx_pre hZ hS hFc hPc hKc hDc⟩ rfl rfl hl.1 rfl (lv_room (Nat.le_of_ble_eq_true rfl)) zd_Wr_writeSpecial_51 ⟨(Nat.le_of_ble_eq_true rfl), (Nat.le_of_ble_eq_true rfl)⟩) hS (fun q _ h => hFc q h) hFc (fun q _ h => hFc q h) (fun E9 ce9 q9 u70 t H1 locs ht hvm hw hB hz1 hk1 hS hce hcv hcl => ?_) (fun u70 t H1 locs ht hvm hw hB hz1 hk1 hS => ?_)
        · obtain ⟨hE, hB⟩ := hB
          obtain ⟨hP1, hK1, hD1⟩ := hB
          rw [ht] at hP1
          have hK1 := va_K.moved hvm.symm hK1
          obtain ⟨hP, hD⟩ := va_join (wr := [(h0, .inr (6, [.ref h0_0, .ref h0_1, .int v0_address, .int v0_file, .int v0_line, .int v0_column, .int v0_statement])), (h0_0, .inr (1, [.int v0_0_base, .int v0_0_range, .int v0_0_low, .int v0_0_start, .int v0_0_step]))]) (w1 := [(h0_1, .inr (0, [.ref h0_1_0, .int u70.2.1])), (h0_1_0, .inl (c0_1_0, 600, .inl u70.2.2))]) hP hD [2, 3] [0, 1] rfl rfl (by decide) (by decide) hk1 hFc hP1 hD1
          generalize H1 = H at hP hS hce ⊢
          have hP : va_P (dC, dI) zC [(h0, .inr (6, [.ref h0_0, .ref h0_1, .int v0_address, .int v0_file, .int v0_line, .int v0_column, .int v0_statement])), (h0_0, .inr (1, [.int v0_0_base, .int v0_0_range, .int v0_0_low, .int v0_0_start, .int v0_0_step])), (h0_1, .inr (0, [.ref h0_1_0, .int u70.2.1])), (h0_1_0, .inl (c0_1_0, 600, .inl u70.2.2))] H := hP
          have hD : va_D A [(h0, .inr (6, [.ref h0_0, .ref h0_1, .int v0_address, .int v0_file, .int v0_line, .int v0_column, .int v0_statement])), (h0_0, .inr (1, [.int v0_0_base, .int v0_0_range, .int v0_0_low, .int v0_0_start, .int v0_0_step])), (h0_1, .inr (0, [.ref h0_1_0, .int u70.2.1])), (h0_1_0, .inl (c0_1_0, 600, .inl u70.2.2))] := hD
          have hP9 := hP.sub (ws' := [(h0, .inr (6, [.ref h0_0, .ref h0_1, .int v0_address, .int v0_file, .int v0_line, .int v0_column, .int v0_statement])), (h0_0, .inr (1, [.int v0_0_base, .int v0_0_range, .int v0_0_low, .int v0_0_start, .int v0_0_step])), (h0_1, .inr (0, [.ref h0_1_0, .int u70.2.1])), (h0_1_0, .inl (c0_1_0, 600, .inl u70.2.2))]) [0, 1, 2, 3] rfl
          have hD9 := hD.sub (ws' := [(h0, .inr (6, [.ref h0_0, .ref h0_1, .int v0_address, .int v0_file, .int v0_line, .int v0_column, .int v0_statement])), (h0_0, .inr (1, [.int v0_0_base, .int v0_0_range, .int v0_0_low, .int v0_0_start, .int v0_0_step])), (h0_1, .inr (0, [.ref h0_1_0, .int u70.2.1])), (h0_1_0, .inl (c0_1_0, 600, .inl u70.2.2))]) [0, 1, 2, 3] (by decide) rfl
          have hK9 := hK.sub (tys' := [(c0_1_0, .int)]) [0] rfl
          exact tw_out (E := E9) (fun x hx => (hEx x hx).elim) hlocks hce hcv hcl (fun t ht ha => ⟨(u70.1, (u70.2.1, u70.2.2)), hw, ⟨hE, by rw [ht]; exact hP9, va_K.moved ha hK9, hD9⟩, hS.F ht⟩) hS.2.2 (Nat.le_of_ble_eq_true rfl) (Nat.le_of_ble_eq_true rfl)
        · skip
          obtain ⟨hP1, hK1, hD1⟩ := hB
          rw [ht] at hP1
          have hK1 := va_K.moved hvm.symm hK1
          obtain ⟨hP, hD⟩ := va_join (wr := [(h0, .inr (6, [.ref h0_0, .ref h0_1, .int v0_address, .int v0_file, .int v0_line, .int v0_column, .int v0_statement])), (h0_0, .inr (1, [.int v0_0_base, .int v0_0_range, .int v0_0_low, .int v0_0_start, .int v0_0_step]))]) (w1 := [(h0_1, .inr (0, [.ref h0_1_0, .int u70.1])), (h0_1_0, .inl (c0_1_0, 600, .inl u70.2))]) hP hD [2, 3] [0, 1] rfl rfl (by decide) (by decide) hk1 hFc hP1 hD1
          generalize H1 = H at hP hS ⊢
          have hP : va_P (dC, dI) zC [(h0, .inr (6, [.ref h0_0, .ref h0_1, .int v0_address, .int v0_file, .int v0_line, .int v0_column, .int v0_statement])), (h0_0, .inr (1, [.int v0_0_base, .int v0_0_range, .int v0_0_low, .int v0_0_start, .int v0_0_step])), (h0_1, .inr (0, [.ref h0_1_0, .int u70.1])), (h0_1_0, .inl (c0_1_0, 600, .inl u70.2))] H := hP
          have hD : va_D A [(h0, .inr (6, [.ref h0_0, .ref h0_1, .int v0_address, .int v0_file, .int v0_line, .int v0_column, .int v0_statement])), (h0_0, .inr (1, [.int v0_0_base, .int v0_0_range, .int v0_0_low, .int v0_0_start, .int v0_0_step])), (h0_1, .inr (0, [.ref h0_1_0, .int u70.1])), (h0_1_0, .inl (c0_1_0, 600, .inl u70.2))] := hD
          refine W.widen (k := 0) (n := 0) (Nat.le_of_ble_eq_true rfl) (Nat.le_of_ble_eq_true rfl) ?_
          refine lv_iload_n hx hb zd_Wr_writeSpecial_54 rfl (lv_at hl 0 rfl) ?_
          refine lv_aload_n hx hb zd_Wr_writeSpecial_55 rfl (lv_at hl 1 rfl) ?_
          refine va_get (D := (dC, dI)) (ci := 6) (v := .ref h0_0) (C := zr_6) (T := zt_6) (N := 7) hx hb htb zi_6 hown hK hP 0 rfl rfl 0 (by decide) (htb _ zw_534) (fun _ h9 => h9) rfl zd_Wr_writeSpecial_56 ?_
          refine va_get (D := (dC, dI)) (ci := 1) (v := .int v0_0_step) (C := zr_1) (T := zt_1) (N := 5) hx hb htb zi_1 hown hK hP 1 rfl rfl 4 (by decide) (htb _ zw_47) (fun _ h9 => h9) rfl zd_Wr_writeSpecial_59 ?_
          refine lv_isub hx hb zd_Wr_writeSpecial_62 ?_
          refine lv_topi (fun x73 ex73 => ?_)
          have hw := hw x73 ex73
          refine lv_istore_n (i := 3) (lv' := [(3, .int x73), (0, .ref h0), (1, .int p0), (2, .int p1)]) hx hb zd_Wr_writeSpecial_63 rfl hl (by decide) rfl (fun ls hl => ?_)
          refine lv_goto (tgt := 82) hx hb zd_Wr_writeSpecial_64 (by decide) ?_
          refine lv_aload_n hx hb zd_Wr_writeSpecial_82 rfl (lv_at hl 1 rfl) ?_
          refine va_get (D := (dC, dI)) (ci := 6) (v := .ref h0_1) (C := zr_6) (T := zt_6) (N := 7) hx hb htb zi_6 hown hK hP 0 rfl rfl 1 (by decide) (htb _ zw_535) (fun _ h9 => h9) rfl zd_Wr_writeSpecial_83 ?_
          refine lv_aload_n hx hb zd_Wr_writeSpecial_86 rfl (lv_at hl 1 rfl) ?_
          refine lv_iload_n hx hb zd_Wr_writeSpecial_87 rfl (lv_at hl 0 rfl) ?_
          refine lv_iload_n hx hb zd_Wr_writeSpecial_88 rfl (lv_at hl 3 rfl) ?_
          have hPc := hP.sub (ws' := [(h0, .inr (6, [.ref h0_0, .ref h0_1, .int v0_address, .int v0_file, .int v0_line, .int v0_column, .int v0_statement])), (h0_0, .inr (1, [.int v0_0_base, .int v0_0_range, .int v0_0_low, .int v0_0_start, .int v0_0_step])), (h0_1, .inr (0, [.ref h0_1_0, .int u70.1])), (h0_1_0, .inl (c0_1_0, 600, .inl u70.2))]) [0, 1, 2, 3] rfl
          have hDc := hD.sub (ws' := [(h0, .inr (6, [.ref h0_0, .ref h0_1, .int v0_address, .int v0_file, .int v0_line, .int v0_column, .int v0_statement])), (h0_0, .inr (1, [.int v0_0_base, .int v0_0_range, .int v0_0_low, .int v0_0_start, .int v0_0_step])), (h0_1, .inr (0, [.ref h0_1_0, .int u70.1])), (h0_1_0, .inl (c0_1_0, 600, .inl u70.2))]) [0, 1, 2, 3] (by decide) rfl
          have hKc := hK.sub (tys' := [(c0_1_0, .int)]) [0] rfl
          have hFc := va_free (wc := [(h0, .inr (6, [.ref h0_0, .ref h0_1, .int v0_address, .int v0_file, .int v0_line, .int v0_column, .int v0_statement])), (h0_0, .inr (1, [.int v0_0_base, .int v0_0_range, .int v0_0_low, .int v0_0_start, .int v0_0_step])), (h0_1, .inr (0, [.ref h0_1_0, .int u70.1])), (h0_1_0, .inl (c0_1_0, 600, .inl u70.2))]) hD hS hA [0, 1, 2, 3] rfl
          refine va_calll (va_runV (As := [.int x73, .int p1]) (rest := [.ref h0_1]) ⟨hx, hb, hml, hown, htb⟩ (mt_Wr_special l dC dI h0 h0_0 h0_1 h0_1_0 H.size c0_1_0 v0_address v0_file v0_line v0_column v0_statement v0_0_base v0_0_range v0_0_low v0_0_start v0_0_step u70.1 u70.2 x73 p1 _ hw) (cwV 2 htb (zgV zw_594 zw_596 zp_Wr_special zw_18 zw_597) rfl rfl rfl (by decide +kernel) ⟨(Nat.le_of_ble_eq_true rfl), (Nat.le_of_ble_eq_true rfl)⟩) ⟨zP_blind, va_recv (ci := 6) (q0 := 0) hK hP rfl rfl, zP_pre hPc hKc hDc⟩ rfl rfl hl.1 rfl (lv_room (Nat.le_of_ble_eq_true rfl)) zd_Wr_writeSpecial_89 ⟨(Nat.le_of_ble_eq_true rfl), (Nat.le_of_ble_eq_true rfl)⟩) hS (fun q _ h => hFc q h) hFc (fun x75 u74 t H1 locs ht hvm hw hB hz1 hk1 hS => ?_)
          obtain ⟨hP1, hK1, hD1⟩ := hB
          rw [ht] at hP1
          have hK1 := va_K.moved hvm.symm hK1
          obtain ⟨hP, hD⟩ := va_join (wr := []) (w1 := [(h0, .inr (6, [.ref h0_0, .ref h0_1, .int v0_address, .int v0_file, .int v0_line, .int v0_column, .int v0_statement])), (h0_0, .inr (1, [.int v0_0_base, .int v0_0_range, .int v0_0_low, .int v0_0_start, .int v0_0_step])), (h0_1, .inr (0, [.ref h0_1_0, .int u70.1])), (h0_1_0, .inl (c0_1_0, 600, .inl u70.2))]) hP hD [0, 1, 2, 3] [] rfl rfl (by decide) (by decide) hk1 hFc hP1 hD1
          generalize H1 = H at hP hS ⊢
          have hP : va_P (dC, dI) zC [(h0, .inr (6, [.ref h0_0, .ref h0_1, .int v0_address, .int v0_file, .int v0_line, .int v0_column, .int v0_statement])), (h0_0, .inr (1, [.int v0_0_base, .int v0_0_range, .int v0_0_low, .int v0_0_start, .int v0_0_step])), (h0_1, .inr (0, [.ref h0_1_0, .int u70.1])), (h0_1_0, .inl (c0_1_0, 600, .inl u70.2))] H := hP
          have hD : va_D A [(h0, .inr (6, [.ref h0_0, .ref h0_1, .int v0_address, .int v0_file, .int v0_line, .int v0_column, .int v0_statement])), (h0_0, .inr (1, [.int v0_0_base, .int v0_0_range, .int v0_0_low, .int v0_0_start, .int v0_0_step])), (h0_1, .inr (0, [.ref h0_1_0, .int u70.1])), (h0_1_0, .inl (c0_1_0, 600, .inl u70.2))] := hD
          refine W.widen (k := 0) (n := 0) (Nat.le_of_ble_eq_true rfl) (Nat.le_of_ble_eq_true rfl) ?_
          refine lv_l2i hx hb zd_Wr_writeSpecial_92 rfl ?_
          refine lv_topi (fun x77 ex77 => ?_)
          have hw := hw x77 ex77
          have hPc := hP.sub (ws' := [(h0_1, .inr (0, [.ref h0_1_0, .int u70.1])), (h0_1_0, .inl (c0_1_0, 600, .inl u70.2))]) [2, 3] rfl
          have hDc := hD.sub (ws' := [(h0_1, .inr (0, [.ref h0_1_0, .int u70.1])), (h0_1_0, .inl (c0_1_0, 600, .inl u70.2))]) [2, 3] (by decide) rfl
          have hKc := hK.sub (tys' := [(c0_1_0, .int)]) [0] rfl
          have hFc := va_free (wc := [(h0_1, .inr (0, [.ref h0_1_0, .int u70.1])), (h0_1_0, .inl (c0_1_0, 600, .inl u70.2))]) hD hS hA [2, 3] rfl
          refine tw_callv (tw_runV (As := [.int x77]) (rest := []) ⟨hx, hb, hml, hown, htb⟩ (mt_By_append l hl9 dC dI sa h0_1 h0_1_0 H.size c0_1_0 u70.1 u70.2 x77 _ _ hw) (cwV 1 htb (zgV zw_565 zw_164 zw_165 zw_3 zw_166) rfl rfl rfl (by decide +kernel) ⟨(Nat.le_of_ble_eq_true rfl), (Nat.le_of_ble_eq_true rfl)⟩) ⟨zPx_blind, va_recv (ci := 0) (q0 := 2) hK hP rfl rfl, zPx_pre hZ hS hFc hPc hKc hDc⟩ rfl rfl hl.1 rfl (lv_room (Nat.le_of_ble_eq_true rfl)) zd_Wr_writeSpecial_93 ⟨(Nat.le_of_ble_eq_true rfl), (Nat.le_of_ble_eq_true rfl)⟩) hS (fun q _ h => hFc q h) hFc (fun q _ h => hFc q h) (fun E9 ce9 q9 u78 t H1 locs ht hvm hw hB hz1 hk1 hS hce hcv hcl => ?_) (fun u78 t H1 locs ht hvm hw hB hz1 hk1 hS => ?_)
          · obtain ⟨hE, hB⟩ := hB
            obtain ⟨hP1, hK1, hD1⟩ := hB
            rw [ht] at hP1
            have hK1 := va_K.moved hvm.symm hK1
            obtain ⟨hP, hD⟩ := va_join (wr := [(h0, .inr (6, [.ref h0_0, .ref h0_1, .int v0_address, .int v0_file, .int v0_line, .int v0_column, .int v0_statement])), (h0_0, .inr (1, [.int v0_0_base, .int v0_0_range, .int v0_0_low, .int v0_0_start, .int v0_0_step]))]) (w1 := [(h0_1, .inr (0, [.ref h0_1_0, .int u78.2.1])), (h0_1_0, .inl (c0_1_0, 600, .inl u78.2.2))]) hP hD [2, 3] [0, 1] rfl rfl (by decide) (by decide) hk1 hFc hP1 hD1
            generalize H1 = H at hP hS hce ⊢
            have hP : va_P (dC, dI) zC [(h0, .inr (6, [.ref h0_0, .ref h0_1, .int v0_address, .int v0_file, .int v0_line, .int v0_column, .int v0_statement])), (h0_0, .inr (1, [.int v0_0_base, .int v0_0_range, .int v0_0_low, .int v0_0_start, .int v0_0_step])), (h0_1, .inr (0, [.ref h0_1_0, .int u78.2.1])), (h0_1_0, .inl (c0_1_0, 600, .inl u78.2.2))] H := hP
            have hD : va_D A [(h0, .inr (6, [.ref h0_0, .ref h0_1, .int v0_address, .int v0_file, .int v0_line, .int v0_column, .int v0_statement])), (h0_0, .inr (1, [.int v0_0_base, .int v0_0_range, .int v0_0_low, .int v0_0_start, .int v0_0_step])), (h0_1, .inr (0, [.ref h0_1_0, .int u78.2.1])), (h0_1_0, .inl (c0_1_0, 600, .inl u78.2.2))] := hD
            have hP9 := hP.sub (ws' := [(h0, .inr (6, [.ref h0_0, .ref h0_1, .int v0_address, .int v0_file, .int v0_line, .int v0_column, .int v0_statement])), (h0_0, .inr (1, [.int v0_0_base, .int v0_0_range, .int v0_0_low, .int v0_0_start, .int v0_0_step])), (h0_1, .inr (0, [.ref h0_1_0, .int u78.2.1])), (h0_1_0, .inl (c0_1_0, 600, .inl u78.2.2))]) [0, 1, 2, 3] rfl
            have hD9 := hD.sub (ws' := [(h0, .inr (6, [.ref h0_0, .ref h0_1, .int v0_address, .int v0_file, .int v0_line, .int v0_column, .int v0_statement])), (h0_0, .inr (1, [.int v0_0_base, .int v0_0_range, .int v0_0_low, .int v0_0_start, .int v0_0_step])), (h0_1, .inr (0, [.ref h0_1_0, .int u78.2.1])), (h0_1_0, .inl (c0_1_0, 600, .inl u78.2.2))]) [0, 1, 2, 3] (by decide) rfl
            have hK9 := hK.sub (tys' := [(c0_1_0, .int)]) [0] rfl
            exact tw_out (E := E9) (fun x hx => (hEx x hx).elim) hlocks hce hcv hcl (fun t ht ha => ⟨(u78.1, (u78.2.1, u78.2.2)), hw, ⟨hE, by rw [ht]; exact hP9, va_K.moved ha hK9, hD9⟩, hS.F ht⟩) hS.2.2 (Nat.le_of_ble_eq_true rfl) (Nat.le_of_ble_eq_true rfl)
          · skip
            obtain ⟨hP1, hK1, hD1⟩ := hB
            rw [ht] at hP1
            have hK1 := va_K.moved hvm.symm hK1
            obtain ⟨hP, hD⟩ := va_join (wr := [(h0, .inr (6, [.ref h0_0, .ref h0_1, .int v0_address, .int v0_file, .int v0_line, .int v0_column, .int v0_statement])), (h0_0, .inr (1, [.int v0_0_base, .int v0_0_range, .int v0_0_low, .int v0_0_start, .int v0_0_step]))]) (w1 := [(h0_1, .inr (0, [.ref h0_1_0, .int u78.1])), (h0_1_0, .inl (c0_1_0, 600, .inl u78.2))]) hP hD [2, 3] [0, 1] rfl rfl (by decide) (by decide) hk1 hFc hP1 hD1
            generalize H1 = H at hP hS ⊢
            have hP : va_P (dC, dI) zC [(h0, .inr (6, [.ref h0_0, .ref h0_1, .int v0_address, .int v0_file, .int v0_line, .int v0_column, .int v0_statement])), (h0_0, .inr (1, [.int v0_0_base, .int v0_0_range, .int v0_0_low, .int v0_0_start, .int v0_0_step])), (h0_1, .inr (0, [.ref h0_1_0, .int u78.1])), (h0_1_0, .inl (c0_1_0, 600, .inl u78.2))] H := hP
            have hD : va_D A [(h0, .inr (6, [.ref h0_0, .ref h0_1, .int v0_address, .int v0_file, .int v0_line, .int v0_column, .int v0_statement])), (h0_0, .inr (1, [.int v0_0_base, .int v0_0_range, .int v0_0_low, .int v0_0_start, .int v0_0_step])), (h0_1, .inr (0, [.ref h0_1_0, .int u78.1])), (h0_1_0, .inl (c0_1_0, 600, .inl u78.2))] := hD
            refine W.widen (k := 0) (n := 0) (Nat.le_of_ble_eq_true rfl) (Nat.le_of_ble_eq_true rfl) ?_
            have hP9 := hP.sub (ws' := [(h0, .inr (6, [.ref h0_0, .ref h0_1, .int v0_address, .int v0_file, .int v0_line, .int v0_column, .int v0_statement])), (h0_0, .inr (1, [.int v0_0_base, .int v0_0_range, .int v0_0_low, .int v0_0_start, .int v0_0_step])), (h0_1, .inr (0, [.ref h0_1_0, .int u78.1])), (h0_1_0, .inl (c0_1_0, 600, .inl u78.2))]) [0, 1, 2, 3] rfl
            have hD9 := hD.sub (ws' := [(h0, .inr (6, [.ref h0_0, .ref h0_1, .int v0_address, .int v0_file, .int v0_line, .int v0_column, .int v0_statement])), (h0_0, .inr (1, [.int v0_0_base, .int v0_0_range, .int v0_0_low, .int v0_0_start, .int v0_0_step])), (h0_1, .inr (0, [.ref h0_1_0, .int u78.1])), (h0_1_0, .inl (c0_1_0, 600, .inl u78.2))]) [0, 1, 2, 3] (by decide) rfl
            have hK9 := hK.sub (tys' := [(c0_1_0, .int)]) [0] rfl
            refine W.widen (k := 0) (n := 0) (Nat.le_of_ble_eq_true rfl) (Nat.le_of_ble_eq_true rfl) ?_
            refine tw_ret ?_
            exact W.vret hx hb hr (fun t ht hW => ⟨⟨(u78.1, u78.2), rfl, hw, by rw [ht]; exact hP9, va_K.moved hW.alike hK9, hD9⟩, hS.F ht⟩) hS.2.2 zd_Wr_writeSpecial_96
abbrev zo_Wr_writeMove : Room := { frames := 9, cells := 1, slots := 6, locals := 157 }
abbrev zb_Wr_writeMove (dC : Nat → ClassId) (dI : Nat → Nat → Nat) (A : Nat → Prop) (h0 h0_0 h0_1 h0_1_0 : Nat) (c0_1_0 : ClassId) (v0_file : Int32) (v0_column : Int32) (v0_statement : Int32) (v0_0_base : Int32) (v0_0_range : Int32) (v0_0_low : Int32) (v0_0_start : Int32) (v0_0_step : Int32) (u : Int32 × Int32 × Int32 × (Nat → Int32)) (t : State) : Prop := va_P (dC, dI) zC [(h0, .inr (6, [.ref h0_0, .ref h0_1, .int u.1, .int v0_file, .int u.2.1, .int v0_column, .int v0_statement])), (h0_0, .inr (1, [.int v0_0_base, .int v0_0_range, .int v0_0_low, .int v0_0_start, .int v0_0_step])), (h0_1, .inr (0, [.ref h0_1_0, .int u.2.2.1])), (h0_1_0, .inl (c0_1_0, 600, .inl u.2.2.2))] t.heap ∧ va_K (dC, dI) zC [(c0_1_0, .int)] t ∧ va_D A [(h0, .inr (6, [.ref h0_0, .ref h0_1, .int u.1, .int v0_file, .int u.2.1, .int v0_column, .int v0_statement])), (h0_0, .inr (1, [.int v0_0_base, .int v0_0_range, .int v0_0_low, .int v0_0_start, .int v0_0_step])), (h0_1, .inr (0, [.ref h0_1_0, .int u.2.2.1])), (h0_1_0, .inl (c0_1_0, 600, .inl u.2.2.2))]
abbrev zx_Wr_writeMove (dC : Nat → ClassId) (dI : Nat → Nat → Nat) (A : Nat → Prop) (h0 h0_0 h0_1 h0_1_0 : Nat) (c0_1_0 : ClassId) (v0_file : Int32) (v0_column : Int32) (v0_statement : Int32) (v0_0_base : Int32) (v0_0_range : Int32) (v0_0_low : Int32) (v0_0_start : Int32) (v0_0_step : Int32) (E : String) (u : Nat × (Int32 × Int32 × Int32 × (Nat → Int32))) (t : State) : Prop := E = zE u.1 ∧ zb_Wr_writeMove dC dI A h0 h0_0 h0_1 h0_1_0 c0_1_0 v0_file v0_column v0_statement v0_0_base v0_0_range v0_0_low v0_0_start v0_0_step u.2 t
set_option maxHeartbeats 4000000 in
set_option maxRecDepth 100000 in
theorem mt_Wr_writeMove (l : Launch) (hl9 : l.stackTraces = false) (dC : Nat → ClassId) (dI : Nat → Nat → Nat) (sa : Nat → Nat) (h0 h0_0 h0_1 h0_1_0 sz : Nat) (c0_1_0 : ClassId) (v0_address : Int32) (v0_file : Int32) (v0_line : Int32) (v0_column : Int32) (v0_statement : Int32) (v0_0_base : Int32) (v0_0_range : Int32) (v0_0_low : Int32) (v0_0_start : Int32) (v0_0_step : Int32) (v0_1_size : Int32) (g0_1_values : Nat → Int32) (p0 : Int32) (p1 : Int32) (post : (Int32 × Int32 × Int32 × (Nat → Int32)) → Prop) (postX : Nat × (Int32 × Int32 × Int32 × (Nat → Int32)) → Prop) (hw : wp_Wr_writeMove v0_address v0_line v0_0_base v0_0_range v0_0_low v0_0_step v0_1_size g0_1_values p0 p1 post postX) : tw_Met l zy_Wr_writeMove zs_Wr_writeMove zo_Wr_writeMove (zPx dC dI sa [.ref h0, .int p0, .int p1] sz [(h0, .inr (6, [.ref h0_0, .ref h0_1, .int v0_address, .int v0_file, .int v0_line, .int v0_column, .int v0_statement])), (h0_0, .inr (1, [.int v0_0_base, .int v0_0_range, .int v0_0_low, .int v0_0_start, .int v0_0_step])), (h0_1, .inr (0, [.ref h0_1_0, .int v0_1_size])), (h0_1_0, .inl (c0_1_0, 600, .inl g0_1_values))] [(c0_1_0, .int)]) (va_Qv (fun (u : Int32 × Int32 × Int32 × (Nat → Int32)) => post u) (zb_Wr_writeMove dC dI (va_A [(h0, .inr (6, [.ref h0_0, .ref h0_1, .int v0_address, .int v0_file, .int v0_line, .int v0_column, .int v0_statement])), (h0_0, .inr (1, [.int v0_0_base, .int v0_0_range, .int v0_0_low, .int v0_0_start, .int v0_0_step])), (h0_1, .inr (0, [.ref h0_1_0, .int v0_1_size])), (h0_1_0, .inl (c0_1_0, 600, .inl g0_1_values))] sz) h0 h0_0 h0_1 h0_1_0 c0_1_0 v0_file v0_column v0_statement v0_0_base v0_0_range v0_0_low v0_0_start v0_0_step) (va_A [(h0, .inr (6, [.ref h0_0, .ref h0_1, .int v0_address, .int v0_file, .int v0_line, .int v0_column, .int v0_statement])), (h0_0, .inr (1, [.int v0_0_base, .int v0_0_range, .int v0_0_low, .int v0_0_start, .int v0_0_step])), (h0_1, .inr (0, [.ref h0_1_0, .int v0_1_size])), (h0_1_0, .inl (c0_1_0, 600, .inl g0_1_values))] sz)) (vx_X (fun (u : Nat × (Int32 × Int32 × Int32 × (Nat → Int32))) => postX u) (zx_Wr_writeMove dC dI (va_A [(h0, .inr (6, [.ref h0_0, .ref h0_1, .int v0_address, .int v0_file, .int v0_line, .int v0_column, .int v0_statement])), (h0_0, .inr (1, [.int v0_0_base, .int v0_0_range, .int v0_0_low, .int v0_0_start, .int v0_0_step])), (h0_1, .inr (0, [.ref h0_1_0, .int v0_1_size])), (h0_1_0, .inl (c0_1_0, 600, .inl g0_1_values))] sz) h0 h0_0 h0_1 h0_1_0 c0_1_0 v0_file v0_column v0_statement v0_0_base v0_0_range v0_0_low v0_0_start v0_0_step) (va_A [(h0, .inr (6, [.ref h0_0, .ref h0_1, .int v0_address, .int v0_file, .int v0_line, .int v0_column, .int v0_statement])), (h0_0, .inr (1, [.int v0_0_base, .int v0_0_range, .int v0_0_low, .int v0_0_start, .int v0_0_step])), (h0_1, .inr (0, [.ref h0_1_0, .int v0_1_size])), (h0_1_0, .inl (c0_1_0, 600, .inl g0_1_values))] sz)) 0 0 1 6 (va_A [(h0, .inr (6, [.ref h0_0, .ref h0_1, .int v0_address, .int v0_file, .int v0_line, .int v0_column, .int v0_statement])), (h0_0, .inr (1, [.int v0_0_base, .int v0_0_range, .int v0_0_low, .int v0_0_start, .int v0_0_step])), (h0_1, .inr (0, [.ref h0_1_0, .int v0_1_size])), (h0_1_0, .inl (c0_1_0, 600, .inl g0_1_values))] sz) := by
  unfold wp_Wr_writeMove at hw
  refine tw_ofW (cc := zc_Wr_writeMove) (maxL := 4) (ret := none) (by decide) rfl ?_
  intro p e s m args below meth c s₁ B hml hEx hv
  obtain ⟨rfl, hsz, hP, hK, hD0, hZ⟩ := hv
  have hx := B.exec
  have hb := B.bytes
  have hr := B.returns
  have hts := atoms_spec (ws := zs_Wr_writeMove) B.pre
  have htb := fun w (h : w ∈ zB) => hts w (List.mem_cons_of_mem _ h)
  have hown : s.vm.findClass zr_6 = some m.cls := findClass_of_methodNamed B.named
  have hlocks := B.notSynchronized
  subst hsz
  have hD := hD0.self (sz := s.heap.size)
  generalize hAe : va_A [(h0, .inr (6, [.ref h0_0, .ref h0_1, .int v0_address, .int v0_file, .int v0_line, .int v0_column, .int v0_statement])), (h0_0, .inr (1, [.int v0_0_base, .int v0_0_range, .int v0_0_low, .int v0_0_start, .int v0_0_step])), (h0_1, .inr (0, [.ref h0_1_0, .int v0_1_size])), (h0_1_0, .inl (c0_1_0, 600, .inl g0_1_values))] s.heap.size = A at hD hZ ⊢
  have hA : ∀ q : Nat, s.heap.size ≤ q → A q := fun q h => by rw [← hAe]; exact Or.inr h
  clear hAe hD0
  have hl := lv_entry ([.ref h0, .int p0, .int p1]) (n := 4) (Nat.le_of_ble_eq_true rfl)
  rw [lg_entry_eq]
  generalize (lg_sl ([.ref h0, .int p0, .int p1]) ++ List.replicate (4 - (lg_sl ([.ref h0, .int p0, .int p1])).length) Slot.unset).toArray = ls at hl ⊢
  have hl : lv_has ls 4 [(0, .ref h0), (1, .int p0), (2, .int p1)] := hl
  obtain ⟨H, hH⟩ : ∃ H, H = s.heap := ⟨_, rfl⟩
  have hS : va_S A s.heap H [] := by rw [hH]; exact va_S.rf
  rw [← hH] at hP ⊢
  refine lv_iload_n hx hb zd_Wr_writeMove_0 rfl (lv_at hl 2 rfl) ?_
  refine lv_aload_n hx hb zd_Wr_writeMove_1 rfl (lv_at hl 0 rfl) ?_
  refine va_get (D := (dC, dI)) (ci := 6) (v := .int v0_line) (C := zr_6) (T := zt_6) (N := 7) hx hb htb zi_6 hown hK hP 0 rfl rfl 4 (by decide) (htb _ zw_538) (fun _ h9 => h9) rfl zd_Wr_writeMove_2 ?_
  refine lv_isub hx hb zd_Wr_writeMove_5 ?_
  refine lv_topi (fun x1 ex1 => ?_)
  have hw := hw x1 ex1
  refine lv_istore_n (i := 3) (lv' := [(3, .int x1), (0, .ref h0), (1, .int p0), (2, .int p1)]) hx hb zd_Wr_writeMove_6 rfl hl (by decide) rfl (fun ls hl => ?_)
  refine lv_iload_n hx hb zd_Wr_writeMove_7 rfl (lv_at hl 0 rfl) ?_
  refine lv_aload_n hx hb zd_Wr_writeMove_8 rfl (lv_at hl 1 rfl) ?_
  refine va_get (D := (dC, dI)) (ci := 6) (v := .ref h0_0) (C := zr_6) (T := zt_6) (N := 7) hx hb htb zi_6 hown hK hP 0 rfl rfl 0 (by decide) (htb _ zw_534) (fun _ h9 => h9) rfl zd_Wr_writeMove_9 ?_
  refine va_get (D := (dC, dI)) (ci := 1) (v := .int v0_0_low) (C := zr_1) (T := zt_1) (N := 5) hx hb htb zi_1 hown hK hP 1 rfl rfl 2 (by decide) (htb _ zw_41) (fun _ h9 => h9) rfl zd_Wr_writeMove_12 ?_
  have jn37 : ∀  (ls : Array Slot) (H : Heap) (locs : List Loc), lv_has ls 4 [(3, .int x1), (0, .ref h0), (1, .int p0), (2, .int p1)] → va_P (dC, dI) zC [(h0, .inr (6, [.ref h0_0, .ref h0_1, .int v0_address, .int v0_file, .int v0_line, .int v0_column, .int v0_statement])), (h0_0, .inr (1, [.int v0_0_base, .int v0_0_range, .int v0_0_low, .int v0_0_start, .int v0_0_step])), (h0_1, .inr (0, [.ref h0_1_0, .int v0_1_size])), (h0_1_0, .inl (c0_1_0, 600, .inl g0_1_values))] H → va_D A [(h0, .inr (6, [.ref h0_0, .ref h0_1, .int v0_address, .int v0_file, .int v0_line, .int v0_column, .int v0_statement])), (h0_0, .inr (1, [.int v0_0_base, .int v0_0_range, .int v0_0_low, .int v0_0_start, .int v0_0_step])), (h0_1, .inr (0, [.ref h0_1_0, .int v0_1_size])), (h0_1_0, .inl (c0_1_0, 600, .inl g0_1_values))] → va_S A s.heap H locs → wj_Wr_writeMove_37 v0_address v0_line v0_0_base v0_0_range v0_0_low v0_0_step v0_1_size g0_1_values p0 p1 post postX x1  → W p l e (headSpec zs_Wr_writeMove zo_Wr_writeMove).room s m [.ref h0, .int p0, .int p1].toArray below meth c H locs 0 0 (tw_MQ below (va_Qv (fun (u : Int32 × Int32 × Int32 × (Nat → Int32)) => post u) (zb_Wr_writeMove dC dI A h0 h0_0 h0_1 h0_1_0 c0_1_0 v0_file v0_column v0_statement v0_0_base v0_0_range v0_0_low v0_0_start v0_0_step) A) (vx_X (fun (u : Nat × (Int32 × Int32 × Int32 × (Nat → Int32))) => postX u) (zx_Wr_writeMove dC dI A h0 h0_0 h0_1 h0_1_0 c0_1_0 v0_file v0_column v0_statement v0_0_base v0_0_range v0_0_low v0_0_start v0_0_step) A) [.ref h0, .int p0, .int p1].toArray s 0 0 1 6 A) (F0 m 37 ls []) := by
    intro  ls H locs hl hP hD hS hw
    unfold wj_Wr_writeMove_37 at hw
    refine lv_aload_n hx hb zd_Wr_writeMove_37 rfl (lv_at hl 1 rfl) ?_
    refine va_get (D := (dC, dI)) (ci := 6) (v := .ref h0_1) (C := zr_6) (T := zt_6) (N := 7) hx hb htb zi_6 hown hK hP 0 rfl rfl 1 (by decide) (htb _ zw_535) (fun _ h9 => h9) rfl zd_Wr_writeMove_38 ?_
    refine lv_iconst (v := 3) hx hb zd_Wr_writeMove_41 (by decide) ?_
    have hPc := hP.sub (ws' := [(h0_1, .inr (0, [.ref h0_1_0, .int v0_1_size])), (h0_1_0, .inl (c0_1_0, 600, .inl g0_1_values))]) [2, 3] rfl
    have hDc := hD.sub (ws' := [(h0_1, .inr (0, [.ref h0_1_0, .int v0_1_size])), (h0_1_0, .inl (c0_1_0, 600, .inl g0_1_values))]) [2, 3] (by decide) rfl
    have hKc := hK.sub (tys' := [(c0_1_0, .int)]) [0] rfl
    have hFc := va_free (wc := [(h0_1, .inr (0, [.ref h0_1_0, .int v0_1_size])), (h0_1_0, .inl (c0_1_0, 600, .inl g0_1_values))]) hD hS hA [2, 3] rfl
    refine tw_callv (tw_runV (As := [.int 3]) (rest := []) ⟨hx, hb, hml, hown, htb⟩ (mt_By_append l hl9 dC dI sa h0_1 h0_1_0 H.size c0_1_0 v0_1_size g0_1_values 3 _ _ hw) (cwV 1 htb (zgV zw_565 zw_164 zw_165 zw_3 zw_166) rfl rfl rfl (by decide +kernel) ⟨(Nat.le_of_ble_eq_true rfl), (Nat.le_of_ble_eq_true rfl)⟩) ⟨zPx_blind, va_recv (ci := 0) (q0 := 2) hK hP rfl rfl, zPx_pre hZ hS hFc hPc hKc hDc⟩ rfl rfl hl.1 rfl (lv_room (Nat.le_of_ble_eq_true rfl)) zd_Wr_writeMove_42 ⟨(Nat.le_of_ble_eq_true rfl), (Nat.le_of_ble_eq_true rfl)⟩) hS (fun q _ h => hFc q h) hFc (fun q _ h => hFc q h) (fun E9 ce9 q9 u19 t H1 locs ht hvm hw hB hz1 hk1 hS hce hcv hcl => ?_) (fun u19 t H1 locs ht hvm hw hB hz1 hk1 hS => ?_)
    · obtain ⟨hE, hB⟩ := hB
      obtain ⟨hP1, hK1, hD1⟩ := hB
      rw [ht] at hP1
      have hK1 := va_K.moved hvm.symm hK1
      obtain ⟨hP, hD⟩ := va_join (wr := [(h0, .inr (6, [.ref h0_0, .ref h0_1, .int v0_address, .int v0_file, .int v0_line, .int v0_column, .int v0_statement])), (h0_0, .inr (1, [.int v0_0_base, .int v0_0_range, .int v0_0_low, .int v0_0_start, .int v0_0_step]))]) (w1 := [(h0_1, .inr (0, [.ref h0_1_0, .int u19.2.1])), (h0_1_0, .inl (c0_1_0, 600, .inl u19.2.2))]) hP hD [2, 3] [0, 1] rfl rfl (by decide) (by decide) hk1 hFc hP1 hD1
      generalize H1 = H at hP hS hce ⊢
      have hP : va_P (dC, dI) zC [(h0, .inr (6, [.ref h0_0, .ref h0_1, .int v0_address, .int v0_file, .int v0_line, .int v0_column, .int v0_statement])), (h0_0, .inr (1, [.int v0_0_base, .int v0_0_range, .int v0_0_low, .int v0_0_start, .int v0_0_step])), (h0_1, .inr (0, [.ref h0_1_0, .int u19.2.1])), (h0_1_0, .inl (c0_1_0, 600, .inl u19.2.2))] H := hP
      have hD : va_D A [(h0, .inr (6, [.ref h0_0, .ref h0_1, .int v0_address, .int v0_file, .int v0_line, .int v0_column, .int v0_statement])), (h0_0, .inr (1, [.int v0_0_base, .int v0_0_range, .int v0_0_low, .int v0_0_start, .int v0_0_step])), (h0_1, .inr (0, [.ref h0_1_0, .int u19.2.1])), (h0_1_0, .inl (c0_1_0, 600, .inl u19.2.2))] := hD
      have hP9 := hP.sub (ws' := [(h0, .inr (6, [.ref h0_0, .ref h0_1, .int v0_address, .int v0_file, .int v0_line, .int v0_column, .int v0_statement])), (h0_0, .inr (1, [.int v0_0_base, .int v0_0_range, .int v0_0_low, .int v0_0_start, .int v0_0_step])), (h0_1, .inr (0, [.ref h0_1_0, .int u19.2.1])), (h0_1_0, .inl (c0_1_0, 600, .inl u19.2.2))]) [0, 1, 2, 3] rfl
      have hD9 := hD.sub (ws' := [(h0, .inr (6, [.ref h0_0, .ref h0_1, .int v0_address, .int v0_file, .int v0_line, .int v0_column, .int v0_statement])), (h0_0, .inr (1, [.int v0_0_base, .int v0_0_range, .int v0_0_low, .int v0_0_start, .int v0_0_step])), (h0_1, .inr (0, [.ref h0_1_0, .int u19.2.1])), (h0_1_0, .inl (c0_1_0, 600, .inl u19.2.2))]) [0, 1, 2, 3] (by decide) rfl
      have hK9 := hK.sub (tys' := [(c0_1_0, .int)]) [0] rfl
      exact tw_out (E := E9) (fun x hx => (hEx x hx).elim) hlocks hce hcv hcl (fun t ht ha => ⟨(u19.1, (v0_address, v0_line, u19.2.1, u19.2.2)), hw, ⟨hE, by rw [ht]; exact hP9, va_K.moved ha hK9, hD9⟩, hS.F ht⟩) hS.2.2 (Nat.le_of_ble_eq_true rfl) (Nat.le_of_ble_eq_true rfl)
    · skip
      obtain ⟨hP1, hK1, hD1⟩ := hB
      rw [ht] at hP1
      have hK1 := va_K.moved hvm.symm hK1
      obtain ⟨hP, hD⟩ := va_join (wr := [(h0, .inr (6, [.ref h0_0, .ref h0_1, .int v0_address, .int v0_file, .int v0_line, .int v0_column, .int v0_statement])), (h0_0, .inr (1, [.int v0_0_base, .int v0_0_range, .int v0_0_low, .int v0_0_start, .int v0_0_step]))]) (w1 := [(h0_1, .inr (0, [.ref h0_1_0, .int u19.1])), (h0_1_0, .inl (c0_1_0, 600, .inl u19.2))]) hP hD [2, 3] [0, 1] rfl rfl (by decide) (by decide) hk1 hFc hP1 hD1
      generalize H1 = H at hP hS ⊢
      have hP : va_P (dC, dI) zC [(h0, .inr (6, [.ref h0_0, .ref h0_1, .int v0_address, .int v0_file, .int v0_line, .int v0_column, .int v0_statement])), (h0_0, .inr (1, [.int v0_0_base, .int v0_0_range, .int v0_0_low, .int v0_0_start, .int v0_0_step])), (h0_1, .inr (0, [.ref h0_1_0, .int u19.1])), (h0_1_0, .inl (c0_1_0, 600, .inl u19.2))] H := hP
      have hD : va_D A [(h0, .inr (6, [.ref h0_0, .ref h0_1, .int v0_address, .int v0_file, .int v0_line, .int v0_column, .int v0_statement])), (h0_0, .inr (1, [.int v0_0_base, .int v0_0_range, .int v0_0_low, .int v0_0_start, .int v0_0_step])), (h0_1, .inr (0, [.ref h0_1_0, .int u19.1])), (h0_1_0, .inl (c0_1_0, 600, .inl u19.2))] := hD
      refine W.widen (k := 0) (n := 0) (Nat.le_of_ble_eq_true rfl) (Nat.le_of_ble_eq_true rfl) ?_
      refine lv_aload_n hx hb zd_Wr_writeMove_45 rfl (lv_at hl 1 rfl) ?_
      refine lv_iload_n hx hb zd_Wr_writeMove_46 rfl (lv_at hl 0 rfl) ?_
      have hPc := hP.sub (ws' := [(h0, .inr (6, [.ref h0_0, .ref h0_1, .int v0_address, .int v0_file, .int v0_line, .int v0_column, .int v0_statement])), (h0_0, .inr (1, [.int v0_0_base, .int v0_0_range, .int v0_0_low, .int v0_0_start, .int v0_0_step])), (h0_1, .inr (0, [.ref h0_1_0, .int u19.1])), (h0_1_0, .inl (c0_1_0, 600, .inl u19.2))]) [0, 1, 2, 3] rfl
      have hDc := hD.sub (ws' := [(h0, .inr (6, [.ref h0_0, .ref h0_1, .int v0_address, .int v0_file, .int v0_line, .int v0_column, .int v0_statement])), (h0_0, .inr (1, [.int v0_0_base, .int v0_0_range, .int v0_0_low, .int v0_0_start, .int v0_0_step])), (h0_1, .inr (0, [.ref h0_1_0, .int u19.1])), (h0_1_0, .inl (c0_1_0, 600, .inl u19.2))]) [0, 1, 2, 3] (by decide) rfl
      have hKc := hK.sub (tys' := [(c0_1_0, .int)]) [0] rfl
      have hFc := va_free (wc := [(h0, .inr (6, [.ref h0_0, .ref h0_1, .int v0_address, .int v0_file, .int v0_line, .int v0_column, .int v0_statement])), (h0_0, .inr (1, [.int v0_0_base, .int v0_0_range, .int v0_0_low, .int v0_0_start, .int v0_0_step])), (h0_1, .inr (0, [.ref h0_1_0, .int u19.1])), (h0_1_0, .inl (c0_1_0, 600, .inl u19.2))]) hD hS hA [0, 1, 2, 3] rfl
      refine tw_callv (tw_runV (As := [.int x1]) (rest := []) ⟨hx, hb, hml, hown, htb⟩ (mt_Wr_writeSigned l hl9 dC dI sa h0 h0_0 h0_1 h0_1_0 H.size c0_1_0 v0_address v0_file v0_line v0_column v0_statement v0_0_base v0_0_range v0_0_low v0_0_start v0_0_step u19.1 u19.2 x1 _ _ hw) (cwV 1 htb (zgV zw_586 zw_588 zp_Wr_writeSigned zw_18 zw_589) rfl rfl rfl (by decide +kernel) ⟨(Nat.le_of_ble_eq_true rfl), (Nat.le_of_ble_eq_true rfl)⟩) ⟨zPx_blind, va_recv (ci := 6) (q0 := 0) hK hP rfl rfl, zPx_pre hZ hS hFc hPc hKc hDc⟩ rfl rfl hl.1 rfl (lv_room (Nat.le_of_ble_eq_true rfl)) zd_Wr_writeMove_47 ⟨(Nat.le_of_ble_eq_true rfl), (Nat.le_of_ble_eq_true rfl)⟩) hS (fun q _ h => hFc q h) hFc (fun q _ h => hFc q h) (fun E9 ce9 q9 u22 t H1 locs ht hvm hw hB hz1 hk1 hS hce hcv hcl => ?_) (fun u22 t H1 locs ht hvm hw hB hz1 hk1 hS => ?_)
      · obtain ⟨hE, hB⟩ := hB
        obtain ⟨hP1, hK1, hD1⟩ := hB
        rw [ht] at hP1
        have hK1 := va_K.moved hvm.symm hK1
        obtain ⟨hP, hD⟩ := va_join (wr := []) (w1 := [(h0, .inr (6, [.ref h0_0, .ref h0_1, .int v0_address, .int v0_file, .int v0_line, .int v0_column, .int v0_statement])), (h0_0, .inr (1, [.int v0_0_base, .int v0_0_range, .int v0_0_low, .int v0_0_start, .int v0_0_step])), (h0_1, .inr (0, [.ref h0_1_0, .int u22.2.1])), (h0_1_0, .inl (c0_1_0, 600, .inl u22.2.2))]) hP hD [0, 1, 2, 3] [] rfl rfl (by decide) (by decide) hk1 hFc hP1 hD1
        generalize H1 = H at hP hS hce ⊢
        have hP : va_P (dC, dI) zC [(h0, .inr (6, [.ref h0_0, .ref h0_1, .int v0_address, .int v0_file, .int v0_line, .int v0_column, .int v0_statement])), (h0_0, .inr (1, [.int v0_0_base, .int v0_0_range, .int v0_0_low, .int v0_0_start, .int v0_0_step])), (h0_1, .inr (0, [.ref h0_1_0, .int u22.2.1])), (h0_1_0, .inl (c0_1_0, 600, .inl u22.2.2))] H := hP
        have hD : va_D A [(h0, .inr (6, [.ref h0_0, .ref h0_1, .int v0_address, .int v0_file, .int v0_line, .int v0_column, .int v0_statement])), (h0_0, .inr (1, [.int v0_0_base, .int v0_0_range, .int v0_0_low, .int v0_0_start, .int v0_0_step])), (h0_1, .inr (0, [.ref h0_1_0, .int u22.2.1])), (h0_1_0, .inl (c0_1_0, 600, .inl u22.2.2))] := hD
        have hP9 := hP.sub (ws' := [(h0, .inr (6, [.ref h0_0, .ref h0_1, .int v0_address, .int v0_file, .int v0_line, .int v0_column, .int v0_statement])), (h0_0, .inr (1, [.int v0_0_base, .int v0_0_range, .int v0_0_low, .int v0_0_start, .int v0_0_step])), (h0_1, .inr (0, [.ref h0_1_0, .int u22.2.1])), (h0_1_0, .inl (c0_1_0, 600, .inl u22.2.2))]) [0, 1, 2, 3] rfl
        have hD9 := hD.sub (ws' := [(h0, .inr (6, [.ref h0_0, .ref h0_1, .int v0_address, .int v0_file, .int v0_line, .int v0_column, .int v0_statement])), (h0_0, .inr (1, [.int v0_0_base, .int v0_0_range, .int v0_0_low, .int v0_0_start, .int v0_0_step])), (h0_1, .inr (0, [.ref h0_1_0, .int u22.2.1])), (h0_1_0, .inl (c0_1_0, 600, .inl u22.2.2))]) [0, 1, 2, 3] (by decide) rfl
        have hK9 := hK.sub (tys' := [(c0_1_0, .int)]) [0] rfl
        exact tw_out (E := E9) (fun x hx => (hEx x hx).elim) hlocks hce hcv hcl (fun t ht ha => ⟨(u22.1, (v0_address, v0_line, u22.2.1, u22.2.2)), hw, ⟨hE, by rw [ht]; exact hP9, va_K.moved ha hK9, hD9⟩, hS.F ht⟩) hS.2.2 (Nat.le_of_ble_eq_true rfl) (Nat.le_of_ble_eq_true rfl)
      · skip
        obtain ⟨hP1, hK1, hD1⟩ := hB
        rw [ht] at hP1
        have hK1 := va_K.moved hvm.symm hK1
        obtain ⟨hP, hD⟩ := va_join (wr := []) (w1 := [(h0, .inr (6, [.ref h0_0, .ref h0_1, .int v0_address, .int v0_file, .int v0_line, .int v0_column, .int v0_statement])), (h0_0, .inr (1, [.int v0_0_base, .int v0_0_range, .int v0_0_low, .int v0_0_start, .int v0_0_step])), (h0_1, .inr (0, [.ref h0_1_0, .int u22.1])), (h0_1_0, .inl (c0_1_0, 600, .inl u22.2))]) hP hD [0, 1, 2, 3] [] rfl rfl (by decide) (by decide) hk1 hFc hP1 hD1
        generalize H1 = H at hP hS ⊢
        have hP : va_P (dC, dI) zC [(h0, .inr (6, [.ref h0_0, .ref h0_1, .int v0_address, .int v0_file, .int v0_line, .int v0_column, .int v0_statement])), (h0_0, .inr (1, [.int v0_0_base, .int v0_0_range, .int v0_0_low, .int v0_0_start, .int v0_0_step])), (h0_1, .inr (0, [.ref h0_1_0, .int u22.1])), (h0_1_0, .inl (c0_1_0, 600, .inl u22.2))] H := hP
        have hD : va_D A [(h0, .inr (6, [.ref h0_0, .ref h0_1, .int v0_address, .int v0_file, .int v0_line, .int v0_column, .int v0_statement])), (h0_0, .inr (1, [.int v0_0_base, .int v0_0_range, .int v0_0_low, .int v0_0_start, .int v0_0_step])), (h0_1, .inr (0, [.ref h0_1_0, .int u22.1])), (h0_1_0, .inl (c0_1_0, 600, .inl u22.2))] := hD
        refine W.widen (k := 0) (n := 0) (Nat.le_of_ble_eq_true rfl) (Nat.le_of_ble_eq_true rfl) ?_
        refine lv_iconst (v := 0) hx hb zd_Wr_writeMove_50 (by decide) ?_
        refine lv_istore_n (i := 3) (lv' := [(3, .int 0), (0, .ref h0), (1, .int p0), (2, .int p1)]) hx hb zd_Wr_writeMove_51 rfl hl (by decide) rfl (fun ls hl => ?_)
        refine lv_aload_n hx hb zd_Wr_writeMove_52 rfl (lv_at hl 1 rfl) ?_
        refine lv_iload_n hx hb zd_Wr_writeMove_53 rfl (lv_at hl 2 rfl) ?_
        refine lv_aload_n hx hb zd_Wr_writeMove_54 rfl (lv_at hl 1 rfl) ?_
        refine va_get (D := (dC, dI)) (ci := 6) (v := .int v0_address) (C := zr_6) (T := zt_6) (N := 7) hx hb htb zi_6 hown hK hP 0 rfl rfl 2 (by decide) (htb _ zw_536) (fun _ h9 => h9) rfl zd_Wr_writeMove_55 ?_
        refine lv_isub hx hb zd_Wr_writeMove_58 ?_
        refine lv_topi (fun x25 ex25 => ?_)
        have hw := hw x25 ex25
        refine lv_iload_n hx hb zd_Wr_writeMove_59 rfl (lv_at hl 0 rfl) ?_
        have hPc := hP.sub (ws' := [(h0, .inr (6, [.ref h0_0, .ref h0_1, .int v0_address, .int v0_file, .int v0_line, .int v0_column, .int v0_statement])), (h0_0, .inr (1, [.int v0_0_base, .int v0_0_range, .int v0_0_low, .int v0_0_start, .int v0_0_step])), (h0_1, .inr (0, [.ref h0_1_0, .int u22.1])), (h0_1_0, .inl (c0_1_0, 600, .inl u22.2))]) [0, 1, 2, 3] rfl
        have hDc := hD.sub (ws' := [(h0, .inr (6, [.ref h0_0, .ref h0_1, .int v0_address, .int v0_file, .int v0_line, .int v0_column, .int v0_statement])), (h0_0, .inr (1, [.int v0_0_base, .int v0_0_range, .int v0_0_low, .int v0_0_start, .int v0_0_step])), (h0_1, .inr (0, [.ref h0_1_0, .int u22.1])), (h0_1_0, .inl (c0_1_0, 600, .inl u22.2))]) [0, 1, 2, 3] (by decide) rfl
        have hKc := hK.sub (tys' := [(c0_1_0, .int)]) [0] rfl
        have hFc := va_free (wc := [(h0, .inr (6, [.ref h0_0, .ref h0_1, .int v0_address, .int v0_file, .int v0_line, .int v0_column, .int v0_statement])), (h0_0, .inr (1, [.int v0_0_base, .int v0_0_range, .int v0_0_low, .int v0_0_start, .int v0_0_step])), (h0_1, .inr (0, [.ref h0_1_0, .int u22.1])), (h0_1_0, .inl (c0_1_0, 600, .inl u22.2))]) hD hS hA [0, 1, 2, 3] rfl
        refine tw_callv (tw_runV (As := [.int x25, .int 0]) (rest := []) ⟨hx, hb, hml, hown, htb⟩ (mt_Wr_writeSpecial l hl9 dC dI sa h0 h0_0 h0_1 h0_1_0 H.size c0_1_0 v0_address v0_file v0_line v0_column v0_statement v0_0_base v0_0_range v0_0_low v0_0_start v0_0_step u22.1 u22.2 x25 0 _ _ hw) (cwV 2 htb (zgV zw_590 zw_592 zp_Wr_writeSpecial zw_18 zw_593) rfl rfl rfl (by decide +kernel) ⟨(Nat.le_of_ble_eq_true rfl), (Nat.le_of_ble_eq_true rfl)⟩) ⟨zPx_blind, va_recv (ci := 6) (q0 := 0) hK hP rfl rfl, zPx_pre hZ hS hFc hPc hKc hDc⟩ rfl rfl hl.1 rfl (lv_room (Nat.le_of_ble_eq_true rfl)) zd_Wr_writeMove_60 ⟨(Nat.le_of_ble_eq_true rfl), (Nat.le_of_ble_eq_true rfl)⟩) hS (fun q _ h => hFc q h) hFc (fun q _ h => hFc q h) (fun E9 ce9 q9 u26 t H1 locs ht hvm hw hB hz1 hk1 hS hce hcv hcl => ?_) (fun u26 t H1 locs ht hvm hw hB hz1 hk1 hS => ?_)
        · obtain ⟨hE, hB⟩ := hB
          obtain ⟨hP1, hK1, hD1⟩ := hB
          rw [ht] at hP1
          have hK1 := va_K.moved hvm.symm hK1
          obtain ⟨hP, hD⟩ := va_join (wr := []) (w1 := [(h0, .inr (6, [.ref h0_0, .ref h0_1, .int v0_address, .int v0_file, .int v0_line, .int v0_column, .int v0_statement])), (h0_0, .inr (1, [.int v0_0_base, .int v0_0_range, .int v0_0_low, .int v0_0_start, .int v0_0_step])), (h0_1, .inr (0, [.ref h0_1_0, .int u26.2.1])), (h0_1_0, .inl (c0_1_0, 600, .inl u26.2.2))]) hP hD [0, 1, 2, 3] [] rfl rfl (by decide) (by decide) hk1 hFc hP1 hD1
          generalize H1 = H at hP hS hce ⊢
          have hP : va_P (dC, dI) zC [(h0, .inr (6, [.ref h0_0, .ref h0_1, .int v0_address, .int v0_file, .int v0_line, .int v0_column, .int v0_statement])), (h0_0, .inr (1, [.int v0_0_base, .int v0_0_range, .int v0_0_low, .int v0_0_start, .int v0_0_step])), (h0_1, .inr (0, [.ref h0_1_0, .int u26.2.1])), (h0_1_0, .inl (c0_1_0, 600, .inl u26.2.2))] H := hP
          have hD : va_D A [(h0, .inr (6, [.ref h0_0, .ref h0_1, .int v0_address, .int v0_file, .int v0_line, .int v0_column, .int v0_statement])), (h0_0, .inr (1, [.int v0_0_base, .int v0_0_range, .int v0_0_low, .int v0_0_start, .int v0_0_step])), (h0_1, .inr (0, [.ref h0_1_0, .int u26.2.1])), (h0_1_0, .inl (c0_1_0, 600, .inl u26.2.2))] := hD
          have hP9 := hP.sub (ws' := [(h0, .inr (6, [.ref h0_0, .ref h0_1, .int v0_address, .int v0_file, .int v0_line, .int v0_column, .int v0_statement])), (h0_0, .inr (1, [.int v0_0_base, .int v0_0_range, .int v0_0_low, .int v0_0_start, .int v0_0_step])), (h0_1, .inr (0, [.ref h0_1_0, .int u26.2.1])), (h0_1_0, .inl (c0_1_0, 600, .inl u26.2.2))]) [0, 1, 2, 3] rfl
          have hD9 := hD.sub (ws' := [(h0, .inr (6, [.ref h0_0, .ref h0_1, .int v0_address, .int v0_file, .int v0_line, .int v0_column, .int v0_statement])), (h0_0, .inr (1, [.int v0_0_base, .int v0_0_range, .int v0_0_low, .int v0_0_start, .int v0_0_step])), (h0_1, .inr (0, [.ref h0_1_0, .int u26.2.1])), (h0_1_0, .inl (c0_1_0, 600, .inl u26.2.2))]) [0, 1, 2, 3] (by decide) rfl
          have hK9 := hK.sub (tys' := [(c0_1_0, .int)]) [0] rfl
          exact tw_out (E := E9) (fun x hx => (hEx x hx).elim) hlocks hce hcv hcl (fun t ht ha => ⟨(u26.1, (v0_address, v0_line, u26.2.1, u26.2.2)), hw, ⟨hE, by rw [ht]; exact hP9, va_K.moved ha hK9, hD9⟩, hS.F ht⟩) hS.2.2 (Nat.le_of_ble_eq_true rfl) (Nat.le_of_ble_eq_true rfl)
        · skip
          obtain ⟨hP1, hK1, hD1⟩ := hB
          rw [ht] at hP1
          have hK1 := va_K.moved hvm.symm hK1
          obtain ⟨hP, hD⟩ := va_join (wr := []) (w1 := [(h0, .inr (6, [.ref h0_0, .ref h0_1, .int v0_address, .int v0_file, .int v0_line, .int v0_column, .int v0_statement])), (h0_0, .inr (1, [.int v0_0_base, .int v0_0_range, .int v0_0_low, .int v0_0_start, .int v0_0_step])), (h0_1, .inr (0, [.ref h0_1_0, .int u26.1])), (h0_1_0, .inl (c0_1_0, 600, .inl u26.2))]) hP hD [0, 1, 2, 3] [] rfl rfl (by decide) (by decide) hk1 hFc hP1 hD1
          generalize H1 = H at hP hS ⊢
          have hP : va_P (dC, dI) zC [(h0, .inr (6, [.ref h0_0, .ref h0_1, .int v0_address, .int v0_file, .int v0_line, .int v0_column, .int v0_statement])), (h0_0, .inr (1, [.int v0_0_base, .int v0_0_range, .int v0_0_low, .int v0_0_start, .int v0_0_step])), (h0_1, .inr (0, [.ref h0_1_0, .int u26.1])), (h0_1_0, .inl (c0_1_0, 600, .inl u26.2))] H := hP
          have hD : va_D A [(h0, .inr (6, [.ref h0_0, .ref h0_1, .int v0_address, .int v0_file, .int v0_line, .int v0_column, .int v0_statement])), (h0_0, .inr (1, [.int v0_0_base, .int v0_0_range, .int v0_0_low, .int v0_0_start, .int v0_0_step])), (h0_1, .inr (0, [.ref h0_1_0, .int u26.1])), (h0_1_0, .inl (c0_1_0, 600, .inl u26.2))] := hD
          refine W.widen (k := 0) (n := 0) (Nat.le_of_ble_eq_true rfl) (Nat.le_of_ble_eq_true rfl) ?_
          refine lv_aload_n hx hb zd_Wr_writeMove_63 rfl (lv_at hl 1 rfl) ?_
          refine lv_iload_n hx hb zd_Wr_writeMove_64 rfl (lv_at hl 2 rfl) ?_
          refine va_put (D := (dC, dI)) (ci := 6) (v := .int p0) (ty := .int) (C := zr_6) (T := zt_6) (N := 7) hx hb htb zi_6 zf_6 zk_6 zn_6 hown hK hP hD hS 0 rfl rfl 2 (by decide) (htb _ zw_536) (fun _ h9 => h9) rfl (by decide +kernel) rfl rfl (Nat.le_of_ble_eq_true rfl) zd_Wr_writeMove_65 (fun H locs hP hD hS => ?_)
          have hP : va_P (dC, dI) zC [(h0, .inr (6, [.ref h0_0, .ref h0_1, .int p0, .int v0_file, .int v0_line, .int v0_column, .int v0_statement])), (h0_0, .inr (1, [.int v0_0_base, .int v0_0_range, .int v0_0_low, .int v0_0_start, .int v0_0_step])), (h0_1, .inr (0, [.ref h0_1_0, .int u26.1])), (h0_1_0, .inl (c0_1_0, 600, .inl u26.2))] H := hP
          have hD : va_D A [(h0, .inr (6, [.ref h0_0, .ref h0_1, .int p0, .int v0_file, .int v0_line, .int v0_column, .int v0_statement])), (h0_0, .inr (1, [.int v0_0_base, .int v0_0_range, .int v0_0_low, .int v0_0_start, .int v0_0_step])), (h0_1, .inr (0, [.ref h0_1_0, .int u26.1])), (h0_1_0, .inl (c0_1_0, 600, .inl u26.2))] := hD
          refine lv_aload_n hx hb zd_Wr_writeMove_68 rfl (lv_at hl 1 rfl) ?_
          refine lv_iload_n hx hb zd_Wr_writeMove_69 rfl (lv_at hl 3 rfl) ?_
          refine va_put (D := (dC, dI)) (ci := 6) (v := .int p1) (ty := .int) (C := zr_6) (T := zt_6) (N := 7) hx hb htb zi_6 zf_6 zk_6 zn_6 hown hK hP hD hS 0 rfl rfl 4 (by decide) (htb _ zw_538) (fun _ h9 => h9) rfl (by decide +kernel) rfl rfl (Nat.le_of_ble_eq_true rfl) zd_Wr_writeMove_70 (fun H locs hP hD hS => ?_)
          have hP : va_P (dC, dI) zC [(h0, .inr (6, [.ref h0_0, .ref h0_1, .int p0, .int v0_file, .int p1, .int v0_column, .int v0_statement])), (h0_0, .inr (1, [.int v0_0_base, .int v0_0_range, .int v0_0_low, .int v0_0_start, .int v0_0_step])), (h0_1, .inr (0, [.ref h0_1_0, .int u26.1])), (h0_1_0, .inl (c0_1_0, 600, .inl u26.2))] H := hP
          have hD : va_D A [(h0, .inr (6, [.ref h0_0, .ref h0_1, .int p0, .int v0_file, .int p1, .int v0_column, .int v0_statement])), (h0_0, .inr (1, [.int v0_0_base, .int v0_0_range, .int v0_0_low, .int v0_0_start, .int v0_0_step])), (h0_1, .inr (0, [.ref h0_1_0, .int u26.1])), (h0_1_0, .inl (c0_1_0, 600, .inl u26.2))] := hD
          have hP9 := hP.sub (ws' := [(h0, .inr (6, [.ref h0_0, .ref h0_1, .int p0, .int v0_file, .int p1, .int v0_column, .int v0_statement])), (h0_0, .inr (1, [.int v0_0_base, .int v0_0_range, .int v0_0_low, .int v0_0_start, .int v0_0_step])), (h0_1, .inr (0, [.ref h0_1_0, .int u26.1])), (h0_1_0, .inl (c0_1_0, 600, .inl u26.2))]) [0, 1, 2, 3] rfl
          have hD9 := hD.sub (ws' := [(h0, .inr (6, [.ref h0_0, .ref h0_1, .int p0, .int v0_file, .int p1, .int v0_column, .int v0_statement])), (h0_0, .inr (1, [.int v0_0_base, .int v0_0_range, .int v0_0_low, .int v0_0_start, .int v0_0_step])), (h0_1, .inr (0, [.ref h0_1_0, .int u26.1])), (h0_1_0, .inl (c0_1_0, 600, .inl u26.2))]) [0, 1, 2, 3] (by decide) rfl
          have hK9 := hK.sub (tys' := [(c0_1_0, .int)]) [0] rfl
          refine W.widen (k := 0) (n := 0) (Nat.le_of_ble_eq_true rfl) (Nat.le_of_ble_eq_true rfl) ?_
          refine tw_ret ?_
          exact W.vret hx hb hr (fun t ht hW => ⟨⟨(p0, p1, u26.1, u26.2), rfl, hw, by rw [ht]; exact hP9, va_K.moved hW.alike hK9, hD9⟩, hS.F ht⟩) hS.2.2 zd_Wr_writeMove_73
  refine lv_icmp_lt (tgt := 37) hx hb zd_Wr_writeMove_15 (by decide) (fun h29 => ?_) (fun h29 => ?_)
  · have hw := hw.1 h29
    exact jn37  ls H _ (lv_sub hl [0, 1, 2, 3] rfl) (hP.sub (ws' := [(h0, .inr (6, [.ref h0_0, .ref h0_1, .int v0_address, .int v0_file, .int v0_line, .int v0_column, .int v0_statement])), (h0_0, .inr (1, [.int v0_0_base, .int v0_0_range, .int v0_0_low, .int v0_0_start, .int v0_0_step])), (h0_1, .inr (0, [.ref h0_1_0, .int v0_1_size])), (h0_1_0, .inl (c0_1_0, 600, .inl g0_1_values))]) [0, 1, 2, 3] rfl) (hD.sub (ws' := [(h0, .inr (6, [.ref h0_0, .ref h0_1, .int v0_address, .int v0_file, .int v0_line, .int v0_column, .int v0_statement])), (h0_0, .inr (1, [.int v0_0_base, .int v0_0_range, .int v0_0_low, .int v0_0_start, .int v0_0_step])), (h0_1, .inr (0, [.ref h0_1_0, .int v0_1_size])), (h0_1_0, .inl (c0_1_0, 600, .inl g0_1_values))]) [0, 1, 2, 3] (by decide) rfl) hS hw
  · have hw := hw.2 h29
    refine lv_iload_n hx hb zd_Wr_writeMove_18 rfl (lv_at hl 0 rfl) ?_
    refine lv_aload_n hx hb zd_Wr_writeMove_19 rfl (lv_at hl 1 rfl) ?_
    refine va_get (D := (dC, dI)) (ci := 6) (v := .ref h0_0) (C := zr_6) (T := zt_6) (N := 7) hx hb htb zi_6 hown hK hP 0 rfl rfl 0 (by decide) (htb _ zw_534) (fun _ h9 => h9) rfl zd_Wr_writeMove_20 ?_
    refine va_get (D := (dC, dI)) (ci := 1) (v := .int v0_0_low) (C := zr_1) (T := zt_1) (N := 5) hx hb htb zi_1 hown hK hP 1 rfl rfl 2 (by decide) (htb _ zw_41) (fun _ h9 => h9) rfl zd_Wr_writeMove_23 ?_
    refine lv_aload_n hx hb zd_Wr_writeMove_26 rfl (lv_at hl 1 rfl) ?_
    refine va_get (D := (dC, dI)) (ci := 6) (v := .ref h0_0) (C := zr_6) (T := zt_6) (N := 7) hx hb htb zi_6 hown hK hP 0 rfl rfl 0 (by decide) (htb _ zw_534) (fun _ h9 => h9) rfl zd_Wr_writeMove_27 ?_
    refine va_get (D := (dC, dI)) (ci := 1) (v := .int v0_0_range) (C := zr_1) (T := zt_1) (N := 5) hx hb htb zi_1 hown hK hP 1 rfl rfl 1 (by decide) (htb _ zw_38) (fun _ h9 => h9) rfl zd_Wr_writeMove_30 ?_
    refine lv_iadd hx hb zd_Wr_writeMove_33 ?_
    refine lv_topi (fun x30 ex30 => ?_)
    have hw := hw x30 ex30
    refine lv_icmp_lt (tgt := 52) hx hb zd_Wr_writeMove_34 (by decide) (fun h31 => ?_) (fun h31 => ?_)
    · have hw := hw.1 h31
      refine lv_aload_n hx hb zd_Wr_writeMove_52 rfl (lv_at hl 1 rfl) ?_
      refine lv_iload_n hx hb zd_Wr_writeMove_53 rfl (lv_at hl 2 rfl) ?_
      refine lv_aload_n hx hb zd_Wr_writeMove_54 rfl (lv_at hl 1 rfl) ?_
      refine va_get (D := (dC, dI)) (ci := 6) (v := .int v0_address) (C := zr_6) (T := zt_6) (N := 7) hx hb htb zi_6 hown hK hP 0 rfl rfl 2 (by decide) (htb _ zw_536) (fun _ h9 => h9) rfl zd_Wr_writeMove_55 ?_
      refine lv_isub hx hb zd_Wr_writeMove_58 ?_
      refine lv_topi (fun x32 ex32 => ?_)
      have hw := hw x32 ex32
      refine lv_iload_n hx hb zd_Wr_writeMove_59 rfl (lv_at hl 0 rfl) ?_
      have hPc := hP.sub (ws' := [(h0, .inr (6, [.ref h0_0, .ref h0_1, .int v0_address, .int v0_file, .int v0_line, .int v0_column, .int v0_statement])), (h0_0, .inr (1, [.int v0_0_base, .int v0_0_range, .int v0_0_low, .int v0_0_start, .int v0_0_step])), (h0_1, .inr (0, [.ref h0_1_0, .int v0_1_size])), (h0_1_0, .inl (c0_1_0, 600, .inl g0_1_values))]) [0, 1, 2, 3] rfl
      have hDc := hD.sub (ws' := [(h0, .inr (6, [.ref h0_0, .ref h0_1, .int v0_address, .int v0_file, .int v0_line, .int v0_column, .int v0_statement])), (h0_0, .inr (1, [.int v0_0_base, .int v0_0_range, .int v0_0_low, .int v0_0_start, .int v0_0_step])), (h0_1, .inr (0, [.ref h0_1_0, .int v0_1_size])), (h0_1_0, .inl (c0_1_0, 600, .inl g0_1_values))]) [0, 1, 2, 3] (by decide) rfl
      have hKc := hK.sub (tys' := [(c0_1_0, .int)]) [0] rfl
      have hFc := va_free (wc := [(h0, .inr (6, [.ref h0_0, .ref h0_1, .int v0_address, .int v0_file, .int v0_line, .int v0_column, .int v0_statement])), (h0_0, .inr (1, [.int v0_0_base, .int v0_0_range, .int v0_0_low, .int v0_0_start, .int v0_0_step])), (h0_1, .inr (0, [.ref h0_1_0, .int v0_1_size])), (h0_1_0, .inl (c0_1_0, 600, .inl g0_1_values))]) hD hS hA [0, 1, 2, 3] rfl
      refine tw_callv (tw_runV (As := [.int x32, .int x1]) (rest := []) ⟨hx, hb, hml, hown, htb⟩ (mt_Wr_writeSpecial l hl9 dC dI sa h0 h0_0 h0_1 h0_1_0 H.size c0_1_0 v0_address v0_file v0_line v0_column v0_statement v0_0_base v0_0_range v0_0_low v0_0_start v0_0_step v0_1_size g0_1_values x32 x1 _ _ hw) (cwV 2 htb (zgV zw_590 zw_592 zp_Wr_writeSpecial zw_18 zw_593) rfl rfl rfl (by decide +kernel) ⟨(Nat.le_of_ble_eq_true rfl), (Nat.le_of_ble_eq_true rfl)⟩) ⟨zPx_blind, va_recv (ci := 6) (q0 := 0) hK hP rfl rfl, zPx_pre hZ hS hFc hPc hKc hDc⟩ rfl rfl hl.1 rfl (lv_room (Nat.le_of_ble_eq_true rfl)) zd_Wr_writeMove_60 ⟨(Nat.le_of_ble_eq_true rfl), (Nat.le_of_ble_eq_true rfl)⟩) hS (fun q _ h => hFc q h) hFc (fun q _ h => hFc q h) (fun E9 ce9 q9 u33 t H1 locs ht hvm hw hB hz1 hk1 hS hce hcv hcl => ?_) (fun u33 t H1 locs ht hvm hw hB hz1 hk1 hS => ?_)
      · obtain ⟨hE, hB⟩ := hB
        obtain ⟨hP1, hK1, hD1⟩ := hB
        rw [ht] at hP1
        have hK1 := va_K.moved hvm.symm hK1
        obtain ⟨hP, hD⟩ := va_join (wr := []) (w1 := [(h0, .inr (6, [.ref h0_0, .ref h0_1, .int v0_address, .int v0_file, .int v0_line, .int v0_column, .int v0_statement])), (h0_0, .inr (1, [.int v0_0_base, .int v0_0_range, .int v0_0_low, .int v0_0_start, .int v0_0_step])), (h0_1, .inr (0, [.ref h0_1_0, .int u33.2.1])), (h0_1_0, .inl (c0_1_0, 600, .inl u33.2.2))]) hP hD [0, 1, 2, 3] [] rfl rfl (by decide) (by decide) hk1 hFc hP1 hD1
        generalize H1 = H at hP hS hce ⊢
        have hP : va_P (dC, dI) zC [(h0, .inr (6, [.ref h0_0, .ref h0_1, .int v0_address, .int v0_file, .int v0_line, .int v0_column, .int v0_statement])), (h0_0, .inr (1, [.int v0_0_base, .int v0_0_range, .int v0_0_low, .int v0_0_start, .int v0_0_step])), (h0_1, .inr (0, [.ref h0_1_0, .int u33.2.1])), (h0_1_0, .inl (c0_1_0, 600, .inl u33.2.2))] H := hP
        have hD : va_D A [(h0, .inr (6, [.ref h0_0, .ref h0_1, .int v0_address, .int v0_file, .int v0_line, .int v0_column, .int v0_statement])), (h0_0, .inr (1, [.int v0_0_base, .int v0_0_range, .int v0_0_low, .int v0_0_start, .int v0_0_step])), (h0_1, .inr (0, [.ref h0_1_0, .int u33.2.1])), (h0_1_0, .inl (c0_1_0, 600, .inl u33.2.2))] := hD
        have hP9 := hP.sub (ws' := [(h0, .inr (6, [.ref h0_0, .ref h0_1, .int v0_address, .int v0_file, .int v0_line, .int v0_column, .int v0_statement])), (h0_0, .inr (1, [.int v0_0_base, .int v0_0_range, .int v0_0_low, .int v0_0_start, .int v0_0_step])), (h0_1, .inr (0, [.ref h0_1_0, .int u33.2.1])), (h0_1_0, .inl (c0_1_0, 600, .inl u33.2.2))]) [0, 1, 2, 3] rfl
        have hD9 := hD.sub (ws' := [(h0, .inr (6, [.ref h0_0, .ref h0_1, .int v0_address, .int v0_file, .int v0_line, .int v0_column, .int v0_statement])), (h0_0, .inr (1, [.int v0_0_base, .int v0_0_range, .int v0_0_low, .int v0_0_start, .int v0_0_step])), (h0_1, .inr (0, [.ref h0_1_0, .int u33.2.1])), (h0_1_0, .inl (c0_1_0, 600, .inl u33.2.2))]) [0, 1, 2, 3] (by decide) rfl
        have hK9 := hK.sub (tys' := [(c0_1_0, .int)]) [0] rfl
        exact tw_out (E := E9) (fun x hx => (hEx x hx).elim) hlocks hce hcv hcl (fun t ht ha => ⟨(u33.1, (v0_address, v0_line, u33.2.1, u33.2.2)), hw, ⟨hE, by rw [ht]; exact hP9, va_K.moved ha hK9, hD9⟩, hS.F ht⟩) hS.2.2 (Nat.le_of_ble_eq_true rfl) (Nat.le_of_ble_eq_true rfl)
      · skip
        obtain ⟨hP1, hK1, hD1⟩ := hB
        rw [ht] at hP1
        have hK1 := va_K.moved hvm.symm hK1
        obtain ⟨hP, hD⟩ := va_join (wr := []) (w1 := [(h0, .inr (6, [.ref h0_0, .ref h0_1, .int v0_address, .int v0_file, .int v0_line, .int v0_column, .int v0_statement])), (h0_0, .inr (1, [.int v0_0_base, .int v0_0_range, .int v0_0_low, .int v0_0_start, .int v0_0_step])), (h0_1, .inr (0, [.ref h0_1_0, .int u33.1])), (h0_1_0, .inl (c0_1_0, 600, .inl u33.2))]) hP hD [0, 1, 2, 3] [] rfl rfl (by decide) (by decide) hk1 hFc hP1 hD1
        generalize H1 = H at hP hS ⊢
        have hP : va_P (dC, dI) zC [(h0, .inr (6, [.ref h0_0, .ref h0_1, .int v0_address, .int v0_file, .int v0_line, .int v0_column, .int v0_statement])), (h0_0, .inr (1, [.int v0_0_base, .int v0_0_range, .int v0_0_low, .int v0_0_start, .int v0_0_step])), (h0_1, .inr (0, [.ref h0_1_0, .int u33.1])), (h0_1_0, .inl (c0_1_0, 600, .inl u33.2))] H := hP
        have hD : va_D A [(h0, .inr (6, [.ref h0_0, .ref h0_1, .int v0_address, .int v0_file, .int v0_line, .int v0_column, .int v0_statement])), (h0_0, .inr (1, [.int v0_0_base, .int v0_0_range, .int v0_0_low, .int v0_0_start, .int v0_0_step])), (h0_1, .inr (0, [.ref h0_1_0, .int u33.1])), (h0_1_0, .inl (c0_1_0, 600, .inl u33.2))] := hD
        refine W.widen (k := 0) (n := 0) (Nat.le_of_ble_eq_true rfl) (Nat.le_of_ble_eq_true rfl) ?_
        refine lv_aload_n hx hb zd_Wr_writeMove_63 rfl (lv_at hl 1 rfl) ?_
        refine lv_iload_n hx hb zd_Wr_writeMove_64 rfl (lv_at hl 2 rfl) ?_
        refine va_put (D := (dC, dI)) (ci := 6) (v := .int p0) (ty := .int) (C := zr_6) (T := zt_6) (N := 7) hx hb htb zi_6 zf_6 zk_6 zn_6 hown hK hP hD hS 0 rfl rfl 2 (by decide) (htb _ zw_536) (fun _ h9 => h9) rfl (by decide +kernel) rfl rfl (Nat.le_of_ble_eq_true rfl) zd_Wr_writeMove_65 (fun H locs hP hD hS => ?_)
        have hP : va_P (dC, dI) zC [(h0, .inr (6, [.ref h0_0, .ref h0_1, .int p0, .int v0_file, .int v0_line, .int v0_column, .int v0_statement])), (h0_0, .inr (1, [.int v0_0_base, .int v0_0_range, .int v0_0_low, .int v0_0_start, .int v0_0_step])), (h0_1, .inr (0, [.ref h0_1_0, .int u33.1])), (h0_1_0, .inl (c0_1_0, 600, .inl u33.2))] H := hP
        have hD : va_D A [(h0, .inr (6, [.ref h0_0, .ref h0_1, .int p0, .int v0_file, .int v0_line, .int v0_column, .int v0_statement])), (h0_0, .inr (1, [.int v0_0_base, .int v0_0_range, .int v0_0_low, .int v0_0_start, .int v0_0_step])), (h0_1, .inr (0, [.ref h0_1_0, .int u33.1])), (h0_1_0, .inl (c0_1_0, 600, .inl u33.2))] := hD
        refine lv_aload_n hx hb zd_Wr_writeMove_68 rfl (lv_at hl 1 rfl) ?_
        refine lv_iload_n hx hb zd_Wr_writeMove_69 rfl (lv_at hl 3 rfl) ?_
        refine va_put (D := (dC, dI)) (ci := 6) (v := .int p1) (ty := .int) (C := zr_6) (T := zt_6) (N := 7) hx hb htb zi_6 zf_6 zk_6 zn_6 hown hK hP hD hS 0 rfl rfl 4 (by decide) (htb _ zw_538) (fun _ h9 => h9) rfl (by decide +kernel) rfl rfl (Nat.le_of_ble_eq_true rfl) zd_Wr_writeMove_70 (fun H locs hP hD hS => ?_)
        have hP : va_P (dC, dI) zC [(h0, .inr (6, [.ref h0_0, .ref h0_1, .int p0, .int v0_file, .int p1, .int v0_column, .int v0_statement])), (h0_0, .inr (1, [.int v0_0_base, .int v0_0_range, .int v0_0_low, .int v0_0_start, .int v0_0_step])), (h0_1, .inr (0, [.ref h0_1_0, .int u33.1])), (h0_1_0, .inl (c0_1_0, 600, .inl u33.2))] H := hP
        have hD : va_D A [(h0, .inr (6, [.ref h0_0, .ref h0_1, .int p0, .int v0_file, .int p1, .int v0_column, .int v0_statement])), (h0_0, .inr (1, [.int v0_0_base, .int v0_0_range, .int v0_0_low, .int v0_0_start, .int v0_0_step])), (h0_1, .inr (0, [.ref h0_1_0, .int u33.1])), (h0_1_0, .inl (c0_1_0, 600, .inl u33.2))] := hD
        have hP9 := hP.sub (ws' := [(h0, .inr (6, [.ref h0_0, .ref h0_1, .int p0, .int v0_file, .int p1, .int v0_column, .int v0_statement])), (h0_0, .inr (1, [.int v0_0_base, .int v0_0_range, .int v0_0_low, .int v0_0_start, .int v0_0_step])), (h0_1, .inr (0, [.ref h0_1_0, .int u33.1])), (h0_1_0, .inl (c0_1_0, 600, .inl u33.2))]) [0, 1, 2, 3] rfl
        have hD9 := hD.sub (ws' := [(h0, .inr (6, [.ref h0_0, .ref h0_1, .int p0, .int v0_file, .int p1, .int v0_column, .int v0_statement])), (h0_0, .inr (1, [.int v0_0_base, .int v0_0_range, .int v0_0_low, .int v0_0_start, .int v0_0_step])), (h0_1, .inr (0, [.ref h0_1_0, .int u33.1])), (h0_1_0, .inl (c0_1_0, 600, .inl u33.2))]) [0, 1, 2, 3] (by decide) rfl
        have hK9 := hK.sub (tys' := [(c0_1_0, .int)]) [0] rfl
        refine W.widen (k := 0) (n := 0) (Nat.le_of_ble_eq_true rfl) (Nat.le_of_ble_eq_true rfl) ?_
        refine tw_ret ?_
        exact W.vret hx hb hr (fun t ht hW => ⟨⟨(p0, p1, u33.1, u33.2), rfl, hw, by rw [ht]; exact hP9, va_K.moved hW.alike hK9, hD9⟩, hS.F ht⟩) hS.2.2 zd_Wr_writeMove_73
    · have hw := hw.2 h31
      exact jn37  ls H _ (lv_sub hl [0, 1, 2, 3] rfl) (hP.sub (ws' := [(h0, .inr (6, [.ref h0_0, .ref h0_1, .int v0_address, .int v0_file, .int v0_line, .int v0_column, .int v0_statement])), (h0_0, .inr (1, [.int v0_0_base, .int v0_0_range, .int v0_0_low, .int v0_0_start, .int v0_0_step])), (h0_1, .inr (0, [.ref h0_1_0, .int v0_1_size])), (h0_1_0, .inl (c0_1_0, 600, .inl g0_1_values))]) [0, 1, 2, 3] rfl) (hD.sub (ws' := [(h0, .inr (6, [.ref h0_0, .ref h0_1, .int v0_address, .int v0_file, .int v0_line, .int v0_column, .int v0_statement])), (h0_0, .inr (1, [.int v0_0_base, .int v0_0_range, .int v0_0_low, .int v0_0_start, .int v0_0_step])), (h0_1, .inr (0, [.ref h0_1_0, .int v0_1_size])), (h0_1_0, .inl (c0_1_0, 600, .inl g0_1_values))]) [0, 1, 2, 3] (by decide) rfl) hS hw
abbrev zo_Wr_writeEnd : Room := { frames := 8, cells := 1, slots := 6, locals := 134 }
abbrev zb_Wr_writeEnd (dC : Nat → ClassId) (dI : Nat → Nat → Nat) (A : Nat → Prop) (h0 h0_0 h0_1 h0_1_0 : Nat) (c0_1_0 : ClassId) (v0_address : Int32) (v0_file : Int32) (v0_line : Int32) (v0_column : Int32) (v0_statement : Int32) (v0_0_base : Int32) (v0_0_range : Int32) (v0_0_low : Int32) (v0_0_start : Int32) (v0_0_step : Int32) (u : Int32 × (Nat → Int32)) (t : State) : Prop := va_P (dC, dI) zC [(h0, .inr (6, [.ref h0_0, .ref h0_1, .int v0_address, .int v0_file, .int v0_line, .int v0_column, .int v0_statement])), (h0_0, .inr (1, [.int v0_0_base, .int v0_0_range, .int v0_0_low, .int v0_0_start, .int v0_0_step])), (h0_1, .inr (0, [.ref h0_1_0, .int u.1])), (h0_1_0, .inl (c0_1_0, 600, .inl u.2))] t.heap ∧ va_K (dC, dI) zC [(c0_1_0, .int)] t ∧ va_D A [(h0, .inr (6, [.ref h0_0, .ref h0_1, .int v0_address, .int v0_file, .int v0_line, .int v0_column, .int v0_statement])), (h0_0, .inr (1, [.int v0_0_base, .int v0_0_range, .int v0_0_low, .int v0_0_start, .int v0_0_step])), (h0_1, .inr (0, [.ref h0_1_0, .int u.1])), (h0_1_0, .inl (c0_1_0, 600, .inl u.2))]
abbrev zx_Wr_writeEnd (dC : Nat → ClassId) (dI : Nat → Nat → Nat) (A : Nat → Prop) (h0 h0_0 h0_1 h0_1_0 : Nat) (c0_1_0 : ClassId) (v0_address : Int32) (v0_file : Int32) (v0_line : Int32) (v0_column : Int32) (v0_statement : Int32) (v0_0_base : Int32) (v0_0_range : Int32) (v0_0_low : Int32) (v0_0_start : Int32) (v0_0_step : Int32) (E : String) (u : Nat × (Int32 × (Nat → Int32))) (t : State) : Prop := E = zE u.1 ∧ zb_Wr_writeEnd dC dI A h0 h0_0 h0_1 h0_1_0 c0_1_0 v0_address v0_file v0_line v0_column v0_statement v0_0_base v0_0_range v0_0_low v0_0_start v0_0_step u.2 t
set_option maxHeartbeats 4000000 in
set_option maxRecDepth 100000 in
theorem mt_Wr_writeEnd (l : Launch) (hl9 : l.stackTraces = false) (dC : Nat → ClassId) (dI : Nat → Nat → Nat) (sa : Nat → Nat) (h0 h0_0 h0_1 h0_1_0 sz : Nat) (c0_1_0 : ClassId) (v0_address : Int32) (v0_file : Int32) (v0_line : Int32) (v0_column : Int32) (v0_statement : Int32) (v0_0_base : Int32) (v0_0_range : Int32) (v0_0_low : Int32) (v0_0_start : Int32) (v0_0_step : Int32) (v0_1_size : Int32) (g0_1_values : Nat → Int32) (p0 : Int32) (post : (Int32 × (Nat → Int32)) → Prop) (postX : Nat × (Int32 × (Nat → Int32)) → Prop) (hw : wp_Wr_writeEnd v0_address v0_1_size g0_1_values p0 post postX) : tw_Met l zy_Wr_writeEnd zs_Wr_writeEnd zo_Wr_writeEnd (zPx dC dI sa [.ref h0, .int p0] sz [(h0, .inr (6, [.ref h0_0, .ref h0_1, .int v0_address, .int v0_file, .int v0_line, .int v0_column, .int v0_statement])), (h0_0, .inr (1, [.int v0_0_base, .int v0_0_range, .int v0_0_low, .int v0_0_start, .int v0_0_step])), (h0_1, .inr (0, [.ref h0_1_0, .int v0_1_size])), (h0_1_0, .inl (c0_1_0, 600, .inl g0_1_values))] [(c0_1_0, .int)]) (va_Qv (fun (u : Int32 × (Nat → Int32)) => post u) (zb_Wr_writeEnd dC dI (va_A [(h0, .inr (6, [.ref h0_0, .ref h0_1, .int v0_address, .int v0_file, .int v0_line, .int v0_column, .int v0_statement])), (h0_0, .inr (1, [.int v0_0_base, .int v0_0_range, .int v0_0_low, .int v0_0_start, .int v0_0_step])), (h0_1, .inr (0, [.ref h0_1_0, .int v0_1_size])), (h0_1_0, .inl (c0_1_0, 600, .inl g0_1_values))] sz) h0 h0_0 h0_1 h0_1_0 c0_1_0 v0_address v0_file v0_line v0_column v0_statement v0_0_base v0_0_range v0_0_low v0_0_start v0_0_step) (va_A [(h0, .inr (6, [.ref h0_0, .ref h0_1, .int v0_address, .int v0_file, .int v0_line, .int v0_column, .int v0_statement])), (h0_0, .inr (1, [.int v0_0_base, .int v0_0_range, .int v0_0_low, .int v0_0_start, .int v0_0_step])), (h0_1, .inr (0, [.ref h0_1_0, .int v0_1_size])), (h0_1_0, .inl (c0_1_0, 600, .inl g0_1_values))] sz)) (vx_X (fun (u : Nat × (Int32 × (Nat → Int32))) => postX u) (zx_Wr_writeEnd dC dI (va_A [(h0, .inr (6, [.ref h0_0, .ref h0_1, .int v0_address, .int v0_file, .int v0_line, .int v0_column, .int v0_statement])), (h0_0, .inr (1, [.int v0_0_base, .int v0_0_range, .int v0_0_low, .int v0_0_start, .int v0_0_step])), (h0_1, .inr (0, [.ref h0_1_0, .int v0_1_size])), (h0_1_0, .inl (c0_1_0, 600, .inl g0_1_values))] sz) h0 h0_0 h0_1 h0_1_0 c0_1_0 v0_address v0_file v0_line v0_column v0_statement v0_0_base v0_0_range v0_0_low v0_0_start v0_0_step) (va_A [(h0, .inr (6, [.ref h0_0, .ref h0_1, .int v0_address, .int v0_file, .int v0_line, .int v0_column, .int v0_statement])), (h0_0, .inr (1, [.int v0_0_base, .int v0_0_range, .int v0_0_low, .int v0_0_start, .int v0_0_step])), (h0_1, .inr (0, [.ref h0_1_0, .int v0_1_size])), (h0_1_0, .inl (c0_1_0, 600, .inl g0_1_values))] sz)) 0 0 1 6 (va_A [(h0, .inr (6, [.ref h0_0, .ref h0_1, .int v0_address, .int v0_file, .int v0_line, .int v0_column, .int v0_statement])), (h0_0, .inr (1, [.int v0_0_base, .int v0_0_range, .int v0_0_low, .int v0_0_start, .int v0_0_step])), (h0_1, .inr (0, [.ref h0_1_0, .int v0_1_size])), (h0_1_0, .inl (c0_1_0, 600, .inl g0_1_values))] sz) := by
  unfold wp_Wr_writeEnd at hw
  refine tw_ofW (cc := zc_Wr_writeEnd) (maxL := 2) (ret := none) (by decide) rfl ?_
  intro p e s m args below meth c s₁ B hml hEx hv
  obtain ⟨rfl, hsz, hP, hK, hD0, hZ⟩ := hv
  have hx := B.exec
  have hb := B.bytes
  have hr := B.returns
  have hts := atoms_spec (ws := zs_Wr_writeEnd) B.pre
  have htb := fun w (h : w ∈ zB) => hts w (List.mem_cons_of_mem _ h)
  have hown : s.vm.findClass zr_6 = some m.cls := findClass_of_methodNamed B.named
  have hlocks := B.notSynchronized
  subst hsz
  have hD := hD0.self (sz := s.heap.size)
  generalize hAe : va_A [(h0, .inr (6, [.ref h0_0, .ref h0_1, .int v0_address, .int v0_file, .int v0_line, .int v0_column, .int v0_statement])), (h0_0, .inr (1, [.int v0_0_base, .int v0_0_range, .int v0_0_low, .int v0_0_start, .int v0_0_step])), (h0_1, .inr (0, [.ref h0_1_0, .int v0_1_size])), (h0_1_0, .inl (c0_1_0, 600, .inl g0_1_values))] s.heap.size = A at hD hZ ⊢
  have hA : ∀ q : Nat, s.heap.size ≤ q → A q := fun q h => by rw [← hAe]; exact Or.inr h
  clear hAe hD0
  have hl := lv_entry ([.ref h0, .int p0]) (n := 2) (Nat.le_of_ble_eq_true rfl)
  rw [lg_entry_eq]
  generalize (lg_sl ([.ref h0, .int p0]) ++ List.replicate (2 - (lg_sl ([.ref h0, .int p0])).length) Slot.unset).toArray = ls at hl ⊢
  have hl : lv_has ls 2 [(0, .ref h0), (1, .int p0)] := hl
  obtain ⟨H, hH⟩ : ∃ H, H = s.heap := ⟨_, rfl⟩
  have hS : va_S A s.heap H [] := by rw [hH]; exact va_S.rf
  rw [← hH] at hP ⊢
  refine lv_iload_n hx hb zd_Wr_writeEnd_0 rfl (lv_at hl 1 rfl) ?_
  refine lv_aload_n hx hb zd_Wr_writeEnd_1 rfl (lv_at hl 0 rfl) ?_
  refine va_get (D := (dC, dI)) (ci := 6) (v := .int v0_address) (C := zr_6) (T := zt_6) (N := 7) hx hb htb zi_6 hown hK hP 0 rfl rfl 2 (by decide) (htb _ zw_536) (fun _ h9 => h9) rfl zd_Wr_writeEnd_2 ?_
  refine lv_icmp_eq (tgt := 26) hx hb zd_Wr_writeEnd_5 (by decide) (fun h1 => ?_) (fun h1 => ?_)
  · have hw := hw.1 h1
    refine lv_aload_n hx hb zd_Wr_writeEnd_26 rfl (lv_at hl 0 rfl) ?_
    refine va_get (D := (dC, dI)) (ci := 6) (v := .ref h0_1) (C := zr_6) (T := zt_6) (N := 7) hx hb htb zi_6 hown hK hP 0 rfl rfl 1 (by decide) (htb _ zw_535) (fun _ h9 => h9) rfl zd_Wr_writeEnd_27 ?_
    refine lv_iconst (v := 0) hx hb zd_Wr_writeEnd_30 (by decide) ?_
    have hPc := hP.sub (ws' := [(h0_1, .inr (0, [.ref h0_1_0, .int v0_1_size])), (h0_1_0, .inl (c0_1_0, 600, .inl g0_1_values))]) [2, 3] rfl
    have hDc := hD.sub (ws' := [(h0_1, .inr (0, [.ref h0_1_0, .int v0_1_size])), (h0_1_0, .inl (c0_1_0, 600, .inl g0_1_values))]) [2, 3] (by decide) rfl
    have hKc := hK.sub (tys' := [(c0_1_0, .int)]) [0] rfl
    have hFc := va_free (wc := [(h0_1, .inr (0, [.ref h0_1_0, .int v0_1_size])), (h0_1_0, .inl (c0_1_0, 600, .inl g0_1_values))]) hD hS hA [2, 3] rfl
    refine tw_callv (tw_runV (As := [.int 0]) (rest := []) ⟨hx, hb, hml, hown, htb⟩ (mt_By_append l hl9 dC dI sa h0_1 h0_1_0 H.size c0_1_0 v0_1_size g0_1_values 0 _ _ hw) (cwV 1 htb (zgV zw_565 zw_164 zw_165 zw_3 zw_166) rfl rfl rfl (by decide +kernel) ⟨(Nat.le_of_ble_eq_true rfl), (Nat.le_of_ble_eq_true rfl)⟩) ⟨zPx_blind, va_recv (ci := 0) (q0 := 2) hK hP rfl rfl, zPx_pre hZ hS hFc hPc hKc hDc⟩ rfl rfl hl.1 rfl (lv_room (Nat.le_of_ble_eq_true rfl)) zd_Wr_writeEnd_31 ⟨(Nat.le_of_ble_eq_true rfl), (Nat.le_of_ble_eq_true rfl)⟩) hS (fun q _ h => hFc q h) hFc (fun q _ h => hFc q h) (fun E9 ce9 q9 u2 t H1 locs ht hvm hw hB hz1 hk1 hS hce hcv hcl => ?_) (fun u2 t H1 locs ht hvm hw hB hz1 hk1 hS => ?_)
    · obtain ⟨hE, hB⟩ := hB
      obtain ⟨hP1, hK1, hD1⟩ := hB
      rw [ht] at hP1
      have hK1 := va_K.moved hvm.symm hK1
      obtain ⟨hP, hD⟩ := va_join (wr := [(h0, .inr (6, [.ref h0_0, .ref h0_1, .int v0_address, .int v0_file, .int v0_line, .int v0_column, .int v0_statement])), (h0_0, .inr (1, [.int v0_0_base, .int v0_0_range, .int v0_0_low, .int v0_0_start, .int v0_0_step]))]) (w1 := [(h0_1, .inr (0, [.ref h0_1_0, .int u2.2.1])), (h0_1_0, .inl (c0_1_0, 600, .inl u2.2.2))]) hP hD [2, 3] [0, 1] rfl rfl (by decide) (by decide) hk1 hFc hP1 hD1
      generalize H1 = H at hP hS hce ⊢
      have hP : va_P (dC, dI) zC [(h0, .inr (6, [.ref h0_0, .ref h0_1, .int v0_address, .int v0_file, .int v0_line, .int v0_column, .int v0_statement])), (h0_0, .inr (1, [.int v0_0_base, .int v0_0_range, .int v0_0_low, .int v0_0_start, .int v0_0_step])), (h0_1, .inr (0, [.ref h0_1_0, .int u2.2.1])), (h0_1_0, .inl (c0_1_0, 600, .inl u2.2.2))] H := hP
      have hD : va_D A [(h0, .inr (6, [.ref h0_0, .ref h0_1, .int v0_address, .int v0_file, .int v0_line, .int v0_column, .int v0_statement])), (h0_0, .inr (1, [.int v0_0_base, .int v0_0_range, .int v0_0_low, .int v0_0_start, .int v0_0_step])), (h0_1, .inr (0, [.ref h0_1_0, .int u2.2.1])), (h0_1_0, .inl (c0_1_0, 600, .inl u2.2.2))] := hD
      have hP9 := hP.sub (ws' := [(h0, .inr (6, [.ref h0_0, .ref h0_1, .int v0_address, .int v0_file, .int v0_line, .int v0_column, .int v0_statement])), (h0_0, .inr (1, [.int v0_0_base, .int v0_0_range, .int v0_0_low, .int v0_0_start, .int v0_0_step])), (h0_1, .inr (0, [.ref h0_1_0, .int u2.2.1])), (h0_1_0, .inl (c0_1_0, 600, .inl u2.2.2))]) [0, 1, 2, 3] rfl
      have hD9 := hD.sub (ws' := [(h0, .inr (6, [.ref h0_0, .ref h0_1, .int v0_address, .int v0_file, .int v0_line, .int v0_column, .int v0_statement])), (h0_0, .inr (1, [.int v0_0_base, .int v0_0_range, .int v0_0_low, .int v0_0_start, .int v0_0_step])), (h0_1, .inr (0, [.ref h0_1_0, .int u2.2.1])), (h0_1_0, .inl (c0_1_0, 600, .inl u2.2.2))]) [0, 1, 2, 3] (by decide) rfl
      have hK9 := hK.sub (tys' := [(c0_1_0, .int)]) [0] rfl
      exact tw_out (E := E9) (fun x hx => (hEx x hx).elim) hlocks hce hcv hcl (fun t ht ha => ⟨(u2.1, (u2.2.1, u2.2.2)), hw, ⟨hE, by rw [ht]; exact hP9, va_K.moved ha hK9, hD9⟩, hS.F ht⟩) hS.2.2 (Nat.le_of_ble_eq_true rfl) (Nat.le_of_ble_eq_true rfl)
    · skip
      obtain ⟨hP1, hK1, hD1⟩ := hB
      rw [ht] at hP1
      have hK1 := va_K.moved hvm.symm hK1
      obtain ⟨hP, hD⟩ := va_join (wr := [(h0, .inr (6, [.ref h0_0, .ref h0_1, .int v0_address, .int v0_file, .int v0_line, .int v0_column, .int v0_statement])), (h0_0, .inr (1, [.int v0_0_base, .int v0_0_range, .int v0_0_low, .int v0_0_start, .int v0_0_step]))]) (w1 := [(h0_1, .inr (0, [.ref h0_1_0, .int u2.1])), (h0_1_0, .inl (c0_1_0, 600, .inl u2.2))]) hP hD [2, 3] [0, 1] rfl rfl (by decide) (by decide) hk1 hFc hP1 hD1
      generalize H1 = H at hP hS ⊢
      have hP : va_P (dC, dI) zC [(h0, .inr (6, [.ref h0_0, .ref h0_1, .int v0_address, .int v0_file, .int v0_line, .int v0_column, .int v0_statement])), (h0_0, .inr (1, [.int v0_0_base, .int v0_0_range, .int v0_0_low, .int v0_0_start, .int v0_0_step])), (h0_1, .inr (0, [.ref h0_1_0, .int u2.1])), (h0_1_0, .inl (c0_1_0, 600, .inl u2.2))] H := hP
      have hD : va_D A [(h0, .inr (6, [.ref h0_0, .ref h0_1, .int v0_address, .int v0_file, .int v0_line, .int v0_column, .int v0_statement])), (h0_0, .inr (1, [.int v0_0_base, .int v0_0_range, .int v0_0_low, .int v0_0_start, .int v0_0_step])), (h0_1, .inr (0, [.ref h0_1_0, .int u2.1])), (h0_1_0, .inl (c0_1_0, 600, .inl u2.2))] := hD
      refine W.widen (k := 0) (n := 0) (Nat.le_of_ble_eq_true rfl) (Nat.le_of_ble_eq_true rfl) ?_
      refine lv_aload_n hx hb zd_Wr_writeEnd_34 rfl (lv_at hl 0 rfl) ?_
      refine va_get (D := (dC, dI)) (ci := 6) (v := .ref h0_1) (C := zr_6) (T := zt_6) (N := 7) hx hb htb zi_6 hown hK hP 0 rfl rfl 1 (by decide) (htb _ zw_535) (fun _ h9 => h9) rfl zd_Wr_writeEnd_35 ?_
      refine lv_iconst (v := 1) hx hb zd_Wr_writeEnd_38 (by decide) ?_
      have hPc := hP.sub (ws' := [(h0_1, .inr (0, [.ref h0_1_0, .int u2.1])), (h0_1_0, .inl (c0_1_0, 600, .inl u2.2))]) [2, 3] rfl
      have hDc := hD.sub (ws' := [(h0_1, .inr (0, [.ref h0_1_0, .int u2.1])), (h0_1_0, .inl (c0_1_0, 600, .inl u2.2))]) [2, 3] (by decide) rfl
      have hKc := hK.sub (tys' := [(c0_1_0, .int)]) [0] rfl
      have hFc := va_free (wc := [(h0_1, .inr (0, [.ref h0_1_0, .int u2.1])), (h0_1_0, .inl (c0_1_0, 600, .inl u2.2))]) hD hS hA [2, 3] rfl
      refine tw_callv (tw_runV (As := [.int 1]) (rest := []) ⟨hx, hb, hml, hown, htb⟩ (mt_By_append l hl9 dC dI sa h0_1 h0_1_0 H.size c0_1_0 u2.1 u2.2 1 _ _ hw) (cwV 1 htb (zgV zw_565 zw_164 zw_165 zw_3 zw_166) rfl rfl rfl (by decide +kernel) ⟨(Nat.le_of_ble_eq_true rfl), (Nat.le_of_ble_eq_true rfl)⟩) ⟨zPx_blind, va_recv (ci := 0) (q0 := 2) hK hP rfl rfl, zPx_pre hZ hS hFc hPc hKc hDc⟩ rfl rfl hl.1 rfl (lv_room (Nat.le_of_ble_eq_true rfl)) zd_Wr_writeEnd_39 ⟨(Nat.le_of_ble_eq_true rfl), (Nat.le_of_ble_eq_true rfl)⟩) hS (fun q _ h => hFc q h) hFc (fun q _ h => hFc q h) (fun E9 ce9 q9 u5 t H1 locs ht hvm hw hB hz1 hk1 hS hce hcv hcl => ?_) (fun u5 t H1 locs ht hvm hw hB hz1 hk1 hS => ?_)
      · obtain ⟨hE, hB⟩ := hB
        obtain ⟨hP1, hK1, hD1⟩ := hB
        rw [ht] at hP1
        have hK1 := va_K.moved hvm.symm hK1
        obtain ⟨hP, hD⟩ := va_join (wr := [(h0, .inr (6, [.ref h0_0, .ref h0_1, .int v0_address, .int v0_file, .int v0_line, .int v0_column, .int v0_statement])), (h0_0, .inr (1, [.int v0_0_base, .int v0_0_range, .int v0_0_low, .int v0_0_start, .int v0_0_step]))]) (w1 := [(h0_1, .inr (0, [.ref h0_1_0, .int u5.2.1])), (h0_1_0, .inl (c0_1_0, 600, .inl u5.2.2))]) hP hD [2, 3] [0, 1] rfl rfl (by decide) (by decide) hk1 hFc hP1 hD1
        generalize H1 = H at hP hS hce ⊢
        have hP : va_P (dC, dI) zC [(h0, .inr (6, [.ref h0_0, .ref h0_1, .int v0_address, .int v0_file, .int v0_line, .int v0_column, .int v0_statement])), (h0_0, .inr (1, [.int v0_0_base, .int v0_0_range, .int v0_0_low, .int v0_0_start, .int v0_0_step])), (h0_1, .inr (0, [.ref h0_1_0, .int u5.2.1])), (h0_1_0, .inl (c0_1_0, 600, .inl u5.2.2))] H := hP
        have hD : va_D A [(h0, .inr (6, [.ref h0_0, .ref h0_1, .int v0_address, .int v0_file, .int v0_line, .int v0_column, .int v0_statement])), (h0_0, .inr (1, [.int v0_0_base, .int v0_0_range, .int v0_0_low, .int v0_0_start, .int v0_0_step])), (h0_1, .inr (0, [.ref h0_1_0, .int u5.2.1])), (h0_1_0, .inl (c0_1_0, 600, .inl u5.2.2))] := hD
        have hP9 := hP.sub (ws' := [(h0, .inr (6, [.ref h0_0, .ref h0_1, .int v0_address, .int v0_file, .int v0_line, .int v0_column, .int v0_statement])), (h0_0, .inr (1, [.int v0_0_base, .int v0_0_range, .int v0_0_low, .int v0_0_start, .int v0_0_step])), (h0_1, .inr (0, [.ref h0_1_0, .int u5.2.1])), (h0_1_0, .inl (c0_1_0, 600, .inl u5.2.2))]) [0, 1, 2, 3] rfl
        have hD9 := hD.sub (ws' := [(h0, .inr (6, [.ref h0_0, .ref h0_1, .int v0_address, .int v0_file, .int v0_line, .int v0_column, .int v0_statement])), (h0_0, .inr (1, [.int v0_0_base, .int v0_0_range, .int v0_0_low, .int v0_0_start, .int v0_0_step])), (h0_1, .inr (0, [.ref h0_1_0, .int u5.2.1])), (h0_1_0, .inl (c0_1_0, 600, .inl u5.2.2))]) [0, 1, 2, 3] (by decide) rfl
        have hK9 := hK.sub (tys' := [(c0_1_0, .int)]) [0] rfl
        exact tw_out (E := E9) (fun x hx => (hEx x hx).elim) hlocks hce hcv hcl (fun t ht ha => ⟨(u5.1, (u5.2.1, u5.2.2)), hw, ⟨hE, by rw [ht]; exact hP9, va_K.moved ha hK9, hD9⟩, hS.F ht⟩) hS.2.2 (Nat.le_of_ble_eq_true rfl) (Nat.le_of_ble_eq_true rfl)
      · skip
        obtain ⟨hP1, hK1, hD1⟩ := hB
        rw [ht] at hP1
        have hK1 := va_K.moved hvm.symm hK1
        obtain ⟨hP, hD⟩ := va_join (wr := [(h0, .inr (6, [.ref h0_0, .ref h0_1, .int v0_address, .int v0_file, .int v0_line, .int v0_column, .int v0_statement])), (h0_0, .inr (1, [.int v0_0_base, .int v0_0_range, .int v0_0_low, .int v0_0_start, .int v0_0_step]))]) (w1 := [(h0_1, .inr (0, [.ref h0_1_0, .int u5.1])), (h0_1_0, .inl (c0_1_0, 600, .inl u5.2))]) hP hD [2, 3] [0, 1] rfl rfl (by decide) (by decide) hk1 hFc hP1 hD1
        generalize H1 = H at hP hS ⊢
        have hP : va_P (dC, dI) zC [(h0, .inr (6, [.ref h0_0, .ref h0_1, .int v0_address, .int v0_file, .int v0_line, .int v0_column, .int v0_statement])), (h0_0, .inr (1, [.int v0_0_base, .int v0_0_range, .int v0_0_low, .int v0_0_start, .int v0_0_step])), (h0_1, .inr (0, [.ref h0_1_0, .int u5.1])), (h0_1_0, .inl (c0_1_0, 600, .inl u5.2))] H := hP
        have hD : va_D A [(h0, .inr (6, [.ref h0_0, .ref h0_1, .int v0_address, .int v0_file, .int v0_line, .int v0_column, .int v0_statement])), (h0_0, .inr (1, [.int v0_0_base, .int v0_0_range, .int v0_0_low, .int v0_0_start, .int v0_0_step])), (h0_1, .inr (0, [.ref h0_1_0, .int u5.1])), (h0_1_0, .inl (c0_1_0, 600, .inl u5.2))] := hD
        refine W.widen (k := 0) (n := 0) (Nat.le_of_ble_eq_true rfl) (Nat.le_of_ble_eq_true rfl) ?_
        refine lv_aload_n hx hb zd_Wr_writeEnd_42 rfl (lv_at hl 0 rfl) ?_
        refine va_get (D := (dC, dI)) (ci := 6) (v := .ref h0_1) (C := zr_6) (T := zt_6) (N := 7) hx hb htb zi_6 hown hK hP 0 rfl rfl 1 (by decide) (htb _ zw_535) (fun _ h9 => h9) rfl zd_Wr_writeEnd_43 ?_
        refine lv_iconst (v := 1) hx hb zd_Wr_writeEnd_46 (by decide) ?_
        have hPc := hP.sub (ws' := [(h0_1, .inr (0, [.ref h0_1_0, .int u5.1])), (h0_1_0, .inl (c0_1_0, 600, .inl u5.2))]) [2, 3] rfl
        have hDc := hD.sub (ws' := [(h0_1, .inr (0, [.ref h0_1_0, .int u5.1])), (h0_1_0, .inl (c0_1_0, 600, .inl u5.2))]) [2, 3] (by decide) rfl
        have hKc := hK.sub (tys' := [(c0_1_0, .int)]) [0] rfl
        have hFc := va_free (wc := [(h0_1, .inr (0, [.ref h0_1_0, .int u5.1])), (h0_1_0, .inl (c0_1_0, 600, .inl u5.2))]) hD hS hA [2, 3] rfl
        refine tw_callv (tw_runV (As := [.int 1]) (rest := []) ⟨hx, hb, hml, hown, htb⟩ (mt_By_append l hl9 dC dI sa h0_1 h0_1_0 H.size c0_1_0 u5.1 u5.2 1 _ _ hw) (cwV 1 htb (zgV zw_565 zw_164 zw_165 zw_3 zw_166) rfl rfl rfl (by decide +kernel) ⟨(Nat.le_of_ble_eq_true rfl), (Nat.le_of_ble_eq_true rfl)⟩) ⟨zPx_blind, va_recv (ci := 0) (q0 := 2) hK hP rfl rfl, zPx_pre hZ hS hFc hPc hKc hDc⟩ rfl rfl hl.1 rfl (lv_room (Nat.le_of_ble_eq_true rfl)) zd_Wr_writeEnd_47 ⟨(Nat.le_of_ble_eq_true rfl), (Nat.le_of_ble_eq_true rfl)⟩) hS (fun q _ h => hFc q h) hFc (fun q _ h => hFc q h) (fun E9 ce9 q9 u8 t H1 locs ht hvm hw hB hz1 hk1 hS hce hcv hcl => ?_) (fun u8 t H1 locs ht hvm hw hB hz1 hk1 hS => ?_)
        · obtain ⟨hE, hB⟩ := hB
          obtain ⟨hP1, hK1, hD1⟩ := hB
          rw [ht] at hP1
          have hK1 := va_K.moved hvm.symm hK1
          obtain ⟨hP, hD⟩ := va_join (wr := [(h0, .inr (6, [.ref h0_0, .ref h0_1, .int v0_address, .int v0_file, .int v0_line, .int v0_column, .int v0_statement])), (h0_0, .inr (1, [.int v0_0_base, .int v0_0_range, .int v0_0_low, .int v0_0_start, .int v0_0_step]))]) (w1 := [(h0_1, .inr (0, [.ref h0_1_0, .int u8.2.1])), (h0_1_0, .inl (c0_1_0, 600, .inl u8.2.2))]) hP hD [2, 3] [0, 1] rfl rfl (by decide) (by decide) hk1 hFc hP1 hD1
          generalize H1 = H at hP hS hce ⊢
          have hP : va_P (dC, dI) zC [(h0, .inr (6, [.ref h0_0, .ref h0_1, .int v0_address, .int v0_file, .int v0_line, .int v0_column, .int v0_statement])), (h0_0, .inr (1, [.int v0_0_base, .int v0_0_range, .int v0_0_low, .int v0_0_start, .int v0_0_step])), (h0_1, .inr (0, [.ref h0_1_0, .int u8.2.1])), (h0_1_0, .inl (c0_1_0, 600, .inl u8.2.2))] H := hP
          have hD : va_D A [(h0, .inr (6, [.ref h0_0, .ref h0_1, .int v0_address, .int v0_file, .int v0_line, .int v0_column, .int v0_statement])), (h0_0, .inr (1, [.int v0_0_base, .int v0_0_range, .int v0_0_low, .int v0_0_start, .int v0_0_step])), (h0_1, .inr (0, [.ref h0_1_0, .int u8.2.1])), (h0_1_0, .inl (c0_1_0, 600, .inl u8.2.2))] := hD
          have hP9 := hP.sub (ws' := [(h0, .inr (6, [.ref h0_0, .ref h0_1, .int v0_address, .int v0_file, .int v0_line, .int v0_column, .int v0_statement])), (h0_0, .inr (1, [.int v0_0_base, .int v0_0_range, .int v0_0_low, .int v0_0_start, .int v0_0_step])), (h0_1, .inr (0, [.ref h0_1_0, .int u8.2.1])), (h0_1_0, .inl (c0_1_0, 600, .inl u8.2.2))]) [0, 1, 2, 3] rfl
          have hD9 := hD.sub (ws' := [(h0, .inr (6, [.ref h0_0, .ref h0_1, .int v0_address, .int v0_file, .int v0_line, .int v0_column, .int v0_statement])), (h0_0, .inr (1, [.int v0_0_base, .int v0_0_range, .int v0_0_low, .int v0_0_start, .int v0_0_step])), (h0_1, .inr (0, [.ref h0_1_0, .int u8.2.1])), (h0_1_0, .inl (c0_1_0, 600, .inl u8.2.2))]) [0, 1, 2, 3] (by decide) rfl
          have hK9 := hK.sub (tys' := [(c0_1_0, .int)]) [0] rfl
          exact tw_out (E := E9) (fun x hx => (hEx x hx).elim) hlocks hce hcv hcl (fun t ht ha => ⟨(u8.1, (u8.2.1, u8.2.2)), hw, ⟨hE, by rw [ht]; exact hP9, va_K.moved ha hK9, hD9⟩, hS.F ht⟩) hS.2.2 (Nat.le_of_ble_eq_true rfl) (Nat.le_of_ble_eq_true rfl)
        · skip
          obtain ⟨hP1, hK1, hD1⟩ := hB
          rw [ht] at hP1
          have hK1 := va_K.moved hvm.symm hK1
          obtain ⟨hP, hD⟩ := va_join (wr := [(h0, .inr (6, [.ref h0_0, .ref h0_1, .int v0_address, .int v0_file, .int v0_line, .int v0_column, .int v0_statement])), (h0_0, .inr (1, [.int v0_0_base, .int v0_0_range, .int v0_0_low, .int v0_0_start, .int v0_0_step]))]) (w1 := [(h0_1, .inr (0, [.ref h0_1_0, .int u8.1])), (h0_1_0, .inl (c0_1_0, 600, .inl u8.2))]) hP hD [2, 3] [0, 1] rfl rfl (by decide) (by decide) hk1 hFc hP1 hD1
          generalize H1 = H at hP hS ⊢
          have hP : va_P (dC, dI) zC [(h0, .inr (6, [.ref h0_0, .ref h0_1, .int v0_address, .int v0_file, .int v0_line, .int v0_column, .int v0_statement])), (h0_0, .inr (1, [.int v0_0_base, .int v0_0_range, .int v0_0_low, .int v0_0_start, .int v0_0_step])), (h0_1, .inr (0, [.ref h0_1_0, .int u8.1])), (h0_1_0, .inl (c0_1_0, 600, .inl u8.2))] H := hP
          have hD : va_D A [(h0, .inr (6, [.ref h0_0, .ref h0_1, .int v0_address, .int v0_file, .int v0_line, .int v0_column, .int v0_statement])), (h0_0, .inr (1, [.int v0_0_base, .int v0_0_range, .int v0_0_low, .int v0_0_start, .int v0_0_step])), (h0_1, .inr (0, [.ref h0_1_0, .int u8.1])), (h0_1_0, .inl (c0_1_0, 600, .inl u8.2))] := hD
          refine W.widen (k := 0) (n := 0) (Nat.le_of_ble_eq_true rfl) (Nat.le_of_ble_eq_true rfl) ?_
          have hP9 := hP.sub (ws' := [(h0, .inr (6, [.ref h0_0, .ref h0_1, .int v0_address, .int v0_file, .int v0_line, .int v0_column, .int v0_statement])), (h0_0, .inr (1, [.int v0_0_base, .int v0_0_range, .int v0_0_low, .int v0_0_start, .int v0_0_step])), (h0_1, .inr (0, [.ref h0_1_0, .int u8.1])), (h0_1_0, .inl (c0_1_0, 600, .inl u8.2))]) [0, 1, 2, 3] rfl
          have hD9 := hD.sub (ws' := [(h0, .inr (6, [.ref h0_0, .ref h0_1, .int v0_address, .int v0_file, .int v0_line, .int v0_column, .int v0_statement])), (h0_0, .inr (1, [.int v0_0_base, .int v0_0_range, .int v0_0_low, .int v0_0_start, .int v0_0_step])), (h0_1, .inr (0, [.ref h0_1_0, .int u8.1])), (h0_1_0, .inl (c0_1_0, 600, .inl u8.2))]) [0, 1, 2, 3] (by decide) rfl
          have hK9 := hK.sub (tys' := [(c0_1_0, .int)]) [0] rfl
          refine W.widen (k := 0) (n := 0) (Nat.le_of_ble_eq_true rfl) (Nat.le_of_ble_eq_true rfl) ?_
          refine tw_ret ?_
          exact W.vret hx hb hr (fun t ht hW => ⟨⟨(u8.1, u8.2), rfl, hw, by rw [ht]; exact hP9, va_K.moved hW.alike hK9, hD9⟩, hS.F ht⟩) hS.2.2 zd_Wr_writeEnd_50
  · have hw := hw.2 h1
    refine lv_aload_n hx hb zd_Wr_writeEnd_8 rfl (lv_at hl 0 rfl) ?_
    refine va_get (D := (dC, dI)) (ci := 6) (v := .ref h0_1) (C := zr_6) (T := zt_6) (N := 7) hx hb htb zi_6 hown hK hP 0 rfl rfl 1 (by decide) (htb _ zw_535) (fun _ h9 => h9) rfl zd_Wr_writeEnd_9 ?_
    refine lv_iconst (v := 2) hx hb zd_Wr_writeEnd_12 (by decide) ?_
    have hPc := hP.sub (ws' := [(h0_1, .inr (0, [.ref h0_1_0, .int v0_1_size])), (h0_1_0, .inl (c0_1_0, 600, .inl g0_1_values))]) [2, 3] rfl
    have hDc := hD.sub (ws' := [(h0_1, .inr (0, [.ref h0_1_0, .int v0_1_size])), (h0_1_0, .inl (c0_1_0, 600, .inl g0_1_values))]) [2, 3] (by decide) rfl
    have hKc := hK.sub (tys' := [(c0_1_0, .int)]) [0] rfl
    have hFc := va_free (wc := [(h0_1, .inr (0, [.ref h0_1_0, .int v0_1_size])), (h0_1_0, .inl (c0_1_0, 600, .inl g0_1_values))]) hD hS hA [2, 3] rfl
    refine tw_callv (tw_runV (As := [.int 2]) (rest := []) ⟨hx, hb, hml, hown, htb⟩ (mt_By_append l hl9 dC dI sa h0_1 h0_1_0 H.size c0_1_0 v0_1_size g0_1_values 2 _ _ hw) (cwV 1 htb (zgV zw_565 zw_164 zw_165 zw_3 zw_166) rfl rfl rfl (by decide +kernel) ⟨(Nat.le_of_ble_eq_true rfl), (Nat.le_of_ble_eq_true rfl)⟩) ⟨zPx_blind, va_recv (ci := 0) (q0 := 2) hK hP rfl rfl, zPx_pre hZ hS hFc hPc hKc hDc⟩ rfl rfl hl.1 rfl (lv_room (Nat.le_of_ble_eq_true rfl)) zd_Wr_writeEnd_13 ⟨(Nat.le_of_ble_eq_true rfl), (Nat.le_of_ble_eq_true rfl)⟩) hS (fun q _ h => hFc q h) hFc (fun q _ h => hFc q h) (fun E9 ce9 q9 u11 t H1 locs ht hvm hw hB hz1 hk1 hS hce hcv hcl => ?_) (fun u11 t H1 locs ht hvm hw hB hz1 hk1 hS => ?_)
    · obtain ⟨hE, hB⟩ := hB
      obtain ⟨hP1, hK1, hD1⟩ := hB
      rw [ht] at hP1
      have hK1 := va_K.moved hvm.symm hK1
      obtain ⟨hP, hD⟩ := va_join (wr := [(h0, .inr (6, [.ref h0_0, .ref h0_1, .int v0_address, .int v0_file, .int v0_line, .int v0_column, .int v0_statement])), (h0_0, .inr (1, [.int v0_0_base, .int v0_0_range, .int v0_0_low, .int v0_0_start, .int v0_0_step]))]) (w1 := [(h0_1, .inr (0, [.ref h0_1_0, .int u11.2.1])), (h0_1_0, .inl (c0_1_0, 600, .inl u11.2.2))]) hP hD [2, 3] [0, 1] rfl rfl (by decide) (by decide) hk1 hFc hP1 hD1
      generalize H1 = H at hP hS hce ⊢
      have hP : va_P (dC, dI) zC [(h0, .inr (6, [.ref h0_0, .ref h0_1, .int v0_address, .int v0_file, .int v0_line, .int v0_column, .int v0_statement])), (h0_0, .inr (1, [.int v0_0_base, .int v0_0_range, .int v0_0_low, .int v0_0_start, .int v0_0_step])), (h0_1, .inr (0, [.ref h0_1_0, .int u11.2.1])), (h0_1_0, .inl (c0_1_0, 600, .inl u11.2.2))] H := hP
      have hD : va_D A [(h0, .inr (6, [.ref h0_0, .ref h0_1, .int v0_address, .int v0_file, .int v0_line, .int v0_column, .int v0_statement])), (h0_0, .inr (1, [.int v0_0_base, .int v0_0_range, .int v0_0_low, .int v0_0_start, .int v0_0_step])), (h0_1, .inr (0, [.ref h0_1_0, .int u11.2.1])), (h0_1_0, .inl (c0_1_0, 600, .inl u11.2.2))] := hD
      have hP9 := hP.sub (ws' := [(h0, .inr (6, [.ref h0_0, .ref h0_1, .int v0_address, .int v0_file, .int v0_line, .int v0_column, .int v0_statement])), (h0_0, .inr (1, [.int v0_0_base, .int v0_0_range, .int v0_0_low, .int v0_0_start, .int v0_0_step])), (h0_1, .inr (0, [.ref h0_1_0, .int u11.2.1])), (h0_1_0, .inl (c0_1_0, 600, .inl u11.2.2))]) [0, 1, 2, 3] rfl
      have hD9 := hD.sub (ws' := [(h0, .inr (6, [.ref h0_0, .ref h0_1, .int v0_address, .int v0_file, .int v0_line, .int v0_column, .int v0_statement])), (h0_0, .inr (1, [.int v0_0_base, .int v0_0_range, .int v0_0_low, .int v0_0_start, .int v0_0_step])), (h0_1, .inr (0, [.ref h0_1_0, .int u11.2.1])), (h0_1_0, .inl (c0_1_0, 600, .inl u11.2.2))]) [0, 1, 2, 3] (by decide) rfl
      have hK9 := hK.sub (tys' := [(c0_1_0, .int)]) [0] rfl
      exact tw_out (E := E9) (fun x hx => (hEx x hx).elim) hlocks hce hcv hcl (fun t ht ha => ⟨(u11.1, (u11.2.1, u11.2.2)), hw, ⟨hE, by rw [ht]; exact hP9, va_K.moved ha hK9, hD9⟩, hS.F ht⟩) hS.2.2 (Nat.le_of_ble_eq_true rfl) (Nat.le_of_ble_eq_true rfl)
    · skip
      obtain ⟨hP1, hK1, hD1⟩ := hB
      rw [ht] at hP1
      have hK1 := va_K.moved hvm.symm hK1
      obtain ⟨hP, hD⟩ := va_join (wr := [(h0, .inr (6, [.ref h0_0, .ref h0_1, .int v0_address, .int v0_file, .int v0_line, .int v0_column, .int v0_statement])), (h0_0, .inr (1, [.int v0_0_base, .int v0_0_range, .int v0_0_low, .int v0_0_start, .int v0_0_step]))]) (w1 := [(h0_1, .inr (0, [.ref h0_1_0, .int u11.1])), (h0_1_0, .inl (c0_1_0, 600, .inl u11.2))]) hP hD [2, 3] [0, 1] rfl rfl (by decide) (by decide) hk1 hFc hP1 hD1
      generalize H1 = H at hP hS ⊢
      have hP : va_P (dC, dI) zC [(h0, .inr (6, [.ref h0_0, .ref h0_1, .int v0_address, .int v0_file, .int v0_line, .int v0_column, .int v0_statement])), (h0_0, .inr (1, [.int v0_0_base, .int v0_0_range, .int v0_0_low, .int v0_0_start, .int v0_0_step])), (h0_1, .inr (0, [.ref h0_1_0, .int u11.1])), (h0_1_0, .inl (c0_1_0, 600, .inl u11.2))] H := hP
      have hD : va_D A [(h0, .inr (6, [.ref h0_0, .ref h0_1, .int v0_address, .int v0_file, .int v0_line, .int v0_column, .int v0_statement])), (h0_0, .inr (1, [.int v0_0_base, .int v0_0_range, .int v0_0_low, .int v0_0_start, .int v0_0_step])), (h0_1, .inr (0, [.ref h0_1_0, .int u11.1])), (h0_1_0, .inl (c0_1_0, 600, .inl u11.2))] := hD
      refine W.widen (k := 0) (n := 0) (Nat.le_of_ble_eq_true rfl) (Nat.le_of_ble_eq_true rfl) ?_
      refine lv_aload_n hx hb zd_Wr_writeEnd_16 rfl (lv_at hl 0 rfl) ?_
      refine lv_iload_n hx hb zd_Wr_writeEnd_17 rfl (lv_at hl 1 rfl) ?_
      refine lv_aload_n hx hb zd_Wr_writeEnd_18 rfl (lv_at hl 0 rfl) ?_
      refine va_get (D := (dC, dI)) (ci := 6) (v := .int v0_address) (C := zr_6) (T := zt_6) (N := 7) hx hb htb zi_6 hown hK hP 0 rfl rfl 2 (by decide) (htb _ zw_536) (fun _ h9 => h9) rfl zd_Wr_writeEnd_19 ?_
      refine lv_isub hx hb zd_Wr_writeEnd_22 ?_
      refine lv_topi (fun x14 ex14 => ?_)
      have hw := hw x14 ex14
      have hPc := hP.sub (ws' := [(h0, .inr (6, [.ref h0_0, .ref h0_1, .int v0_address, .int v0_file, .int v0_line, .int v0_column, .int v0_statement])), (h0_0, .inr (1, [.int v0_0_base, .int v0_0_range, .int v0_0_low, .int v0_0_start, .int v0_0_step])), (h0_1, .inr (0, [.ref h0_1_0, .int u11.1])), (h0_1_0, .inl (c0_1_0, 600, .inl u11.2))]) [0, 1, 2, 3] rfl
      have hDc := hD.sub (ws' := [(h0, .inr (6, [.ref h0_0, .ref h0_1, .int v0_address, .int v0_file, .int v0_line, .int v0_column, .int v0_statement])), (h0_0, .inr (1, [.int v0_0_base, .int v0_0_range, .int v0_0_low, .int v0_0_start, .int v0_0_step])), (h0_1, .inr (0, [.ref h0_1_0, .int u11.1])), (h0_1_0, .inl (c0_1_0, 600, .inl u11.2))]) [0, 1, 2, 3] (by decide) rfl
      have hKc := hK.sub (tys' := [(c0_1_0, .int)]) [0] rfl
      have hFc := va_free (wc := [(h0, .inr (6, [.ref h0_0, .ref h0_1, .int v0_address, .int v0_file, .int v0_line, .int v0_column, .int v0_statement])), (h0_0, .inr (1, [.int v0_0_base, .int v0_0_range, .int v0_0_low, .int v0_0_start, .int v0_0_step])), (h0_1, .inr (0, [.ref h0_1_0, .int u11.1])), (h0_1_0, .inl (c0_1_0, 600, .inl u11.2))]) hD hS hA [0, 1, 2, 3] rfl
      refine tw_callv (tw_runV (As := [.int x14]) (rest := []) ⟨hx, hb, hml, hown, htb⟩ (mt_Wr_writeUnsigned l hl9 dC dI sa h0 h0_0 h0_1 h0_1_0 H.size c0_1_0 v0_address v0_file v0_line v0_column v0_statement v0_0_base v0_0_range v0_0_low v0_0_start v0_0_step u11.1 u11.2 x14 _ _ hw) (cwV 1 htb (zgV zw_570 zw_572 zp_Wr_writeUnsigned zw_18 zw_573) rfl rfl rfl (by decide +kernel) ⟨(Nat.le_of_ble_eq_true rfl), (Nat.le_of_ble_eq_true rfl)⟩) ⟨zPx_blind, va_recv (ci := 6) (q0 := 0) hK hP rfl rfl, zPx_pre hZ hS hFc hPc hKc hDc⟩ rfl rfl hl.1 rfl (lv_room (Nat.le_of_ble_eq_true rfl)) zd_Wr_writeEnd_23 ⟨(Nat.le_of_ble_eq_true rfl), (Nat.le_of_ble_eq_true rfl)⟩) hS (fun q _ h => hFc q h) hFc (fun q _ h => hFc q h) (fun E9 ce9 q9 u15 t H1 locs ht hvm hw hB hz1 hk1 hS hce hcv hcl => ?_) (fun u15 t H1 locs ht hvm hw hB hz1 hk1 hS => ?_)
      · obtain ⟨hE, hB⟩ := hB
        obtain ⟨hP1, hK1, hD1⟩ := hB
        rw [ht] at hP1
        have hK1 := va_K.moved hvm.symm hK1
        obtain ⟨hP, hD⟩ := va_join (wr := []) (w1 := [(h0, .inr (6, [.ref h0_0, .ref h0_1, .int v0_address, .int v0_file, .int v0_line, .int v0_column, .int v0_statement])), (h0_0, .inr (1, [.int v0_0_base, .int v0_0_range, .int v0_0_low, .int v0_0_start, .int v0_0_step])), (h0_1, .inr (0, [.ref h0_1_0, .int u15.2.1])), (h0_1_0, .inl (c0_1_0, 600, .inl u15.2.2))]) hP hD [0, 1, 2, 3] [] rfl rfl (by decide) (by decide) hk1 hFc hP1 hD1
        generalize H1 = H at hP hS hce ⊢
        have hP : va_P (dC, dI) zC [(h0, .inr (6, [.ref h0_0, .ref h0_1, .int v0_address, .int v0_file, .int v0_line, .int v0_column, .int v0_statement])), (h0_0, .inr (1, [.int v0_0_base, .int v0_0_range, .int v0_0_low, .int v0_0_start, .int v0_0_step])), (h0_1, .inr (0, [.ref h0_1_0, .int u15.2.1])), (h0_1_0, .inl (c0_1_0, 600, .inl u15.2.2))] H := hP
        have hD : va_D A [(h0, .inr (6, [.ref h0_0, .ref h0_1, .int v0_address, .int v0_file, .int v0_line, .int v0_column, .int v0_statement])), (h0_0, .inr (1, [.int v0_0_base, .int v0_0_range, .int v0_0_low, .int v0_0_start, .int v0_0_step])), (h0_1, .inr (0, [.ref h0_1_0, .int u15.2.1])), (h0_1_0, .inl (c0_1_0, 600, .inl u15.2.2))] := hD
        have hP9 := hP.sub (ws' := [(h0, .inr (6, [.ref h0_0, .ref h0_1, .int v0_address, .int v0_file, .int v0_line, .int v0_column, .int v0_statement])), (h0_0, .inr (1, [.int v0_0_base, .int v0_0_range, .int v0_0_low, .int v0_0_start, .int v0_0_step])), (h0_1, .inr (0, [.ref h0_1_0, .int u15.2.1])), (h0_1_0, .inl (c0_1_0, 600, .inl u15.2.2))]) [0, 1, 2, 3] rfl
        have hD9 := hD.sub (ws' := [(h0, .inr (6, [.ref h0_0, .ref h0_1, .int v0_address, .int v0_file, .int v0_line, .int v0_column, .int v0_statement])), (h0_0, .inr (1, [.int v0_0_base, .int v0_0_range, .int v0_0_low, .int v0_0_start, .int v0_0_step])), (h0_1, .inr (0, [.ref h0_1_0, .int u15.2.1])), (h0_1_0, .inl (c0_1_0, 600, .inl u15.2.2))]) [0, 1, 2, 3] (by decide) rfl
        have hK9 := hK.sub (tys' := [(c0_1_0, .int)]) [0] rfl
        exact tw_out (E := E9) (fun x hx => (hEx x hx).elim) hlocks hce hcv hcl (fun t ht ha => ⟨(u15.1, (u15.2.1, u15.2.2)), hw, ⟨hE, by rw [ht]; exact hP9, va_K.moved ha hK9, hD9⟩, hS.F ht⟩) hS.2.2 (Nat.le_of_ble_eq_true rfl) (Nat.le_of_ble_eq_true rfl)
      · skip
        obtain ⟨hP1, hK1, hD1⟩ := hB
        rw [ht] at hP1
        have hK1 := va_K.moved hvm.symm hK1
        obtain ⟨hP, hD⟩ := va_join (wr := []) (w1 := [(h0, .inr (6, [.ref h0_0, .ref h0_1, .int v0_address, .int v0_file, .int v0_line, .int v0_column, .int v0_statement])), (h0_0, .inr (1, [.int v0_0_base, .int v0_0_range, .int v0_0_low, .int v0_0_start, .int v0_0_step])), (h0_1, .inr (0, [.ref h0_1_0, .int u15.1])), (h0_1_0, .inl (c0_1_0, 600, .inl u15.2))]) hP hD [0, 1, 2, 3] [] rfl rfl (by decide) (by decide) hk1 hFc hP1 hD1
        generalize H1 = H at hP hS ⊢
        have hP : va_P (dC, dI) zC [(h0, .inr (6, [.ref h0_0, .ref h0_1, .int v0_address, .int v0_file, .int v0_line, .int v0_column, .int v0_statement])), (h0_0, .inr (1, [.int v0_0_base, .int v0_0_range, .int v0_0_low, .int v0_0_start, .int v0_0_step])), (h0_1, .inr (0, [.ref h0_1_0, .int u15.1])), (h0_1_0, .inl (c0_1_0, 600, .inl u15.2))] H := hP
        have hD : va_D A [(h0, .inr (6, [.ref h0_0, .ref h0_1, .int v0_address, .int v0_file, .int v0_line, .int v0_column, .int v0_statement])), (h0_0, .inr (1, [.int v0_0_base, .int v0_0_range, .int v0_0_low, .int v0_0_start, .int v0_0_step])), (h0_1, .inr (0, [.ref h0_1_0, .int u15.1])), (h0_1_0, .inl (c0_1_0, 600, .inl u15.2))] := hD
        refine W.widen (k := 0) (n := 0) (Nat.le_of_ble_eq_true rfl) (Nat.le_of_ble_eq_true rfl) ?_
        refine lv_aload_n hx hb zd_Wr_writeEnd_26 rfl (lv_at hl 0 rfl) ?_
        refine va_get (D := (dC, dI)) (ci := 6) (v := .ref h0_1) (C := zr_6) (T := zt_6) (N := 7) hx hb htb zi_6 hown hK hP 0 rfl rfl 1 (by decide) (htb _ zw_535) (fun _ h9 => h9) rfl zd_Wr_writeEnd_27 ?_
        refine lv_iconst (v := 0) hx hb zd_Wr_writeEnd_30 (by decide) ?_
        have hPc := hP.sub (ws' := [(h0_1, .inr (0, [.ref h0_1_0, .int u15.1])), (h0_1_0, .inl (c0_1_0, 600, .inl u15.2))]) [2, 3] rfl
        have hDc := hD.sub (ws' := [(h0_1, .inr (0, [.ref h0_1_0, .int u15.1])), (h0_1_0, .inl (c0_1_0, 600, .inl u15.2))]) [2, 3] (by decide) rfl
        have hKc := hK.sub (tys' := [(c0_1_0, .int)]) [0] rfl
        have hFc := va_free (wc := [(h0_1, .inr (0, [.ref h0_1_0, .int u15.1])), (h0_1_0, .inl (c0_1_0, 600, .inl u15.2))]) hD hS hA [2, 3] rfl
        refine tw_callv (tw_runV (As := [.int 0]) (rest := []) ⟨hx, hb, hml, hown, htb⟩ (mt_By_append l hl9 dC dI sa h0_1 h0_1_0 H.size c0_1_0 u15.1 u15.2 0 _ _ hw) (cwV 1 htb (zgV zw_565 zw_164 zw_165 zw_3 zw_166) rfl rfl rfl (by decide +kernel) ⟨(Nat.le_of_ble_eq_true rfl), (Nat.le_of_ble_eq_true rfl)⟩) ⟨zPx_blind, va_recv (ci := 0) (q0 := 2) hK hP rfl rfl, zPx_pre hZ hS hFc hPc hKc hDc⟩ rfl rfl hl.1 rfl (lv_room (Nat.le_of_ble_eq_true rfl)) zd_Wr_writeEnd_31 ⟨(Nat.le_of_ble_eq_true rfl), (Nat.le_of_ble_eq_true rfl)⟩) hS (fun q _ h => hFc q h) hFc (fun q _ h => hFc q h) (fun E9 ce9 q9 u18 t H1 locs ht hvm hw hB hz1 hk1 hS hce hcv hcl => ?_) (fun u18 t H1 locs ht hvm hw hB hz1 hk1 hS => ?_)
        · obtain ⟨hE, hB⟩ := hB
          obtain ⟨hP1, hK1, hD1⟩ := hB
          rw [ht] at hP1
          have hK1 := va_K.moved hvm.symm hK1
          obtain ⟨hP, hD⟩ := va_join (wr := [(h0, .inr (6, [.ref h0_0, .ref h0_1, .int v0_address, .int v0_file, .int v0_line, .int v0_column, .int v0_statement])), (h0_0, .inr (1, [.int v0_0_base, .int v0_0_range, .int v0_0_low, .int v0_0_start, .int v0_0_step]))]) (w1 := [(h0_1, .inr (0, [.ref h0_1_0, .int u18.2.1])), (h0_1_0, .inl (c0_1_0, 600, .inl u18.2.2))]) hP hD [2, 3] [0, 1] rfl rfl (by decide) (by decide) hk1 hFc hP1 hD1
          generalize H1 = H at hP hS hce ⊢
          have hP : va_P (dC, dI) zC [(h0, .inr (6, [.ref h0_0, .ref h0_1, .int v0_address, .int v0_file, .int v0_line, .int v0_column, .int v0_statement])), (h0_0, .inr (1, [.int v0_0_base, .int v0_0_range, .int v0_0_low, .int v0_0_start, .int v0_0_step])), (h0_1, .inr (0, [.ref h0_1_0, .int u18.2.1])), (h0_1_0, .inl (c0_1_0, 600, .inl u18.2.2))] H := hP
          have hD : va_D A [(h0, .inr (6, [.ref h0_0, .ref h0_1, .int v0_address, .int v0_file, .int v0_line, .int v0_column, .int v0_statement])), (h0_0, .inr (1, [.int v0_0_base, .int v0_0_range, .int v0_0_low, .int v0_0_start, .int v0_0_step])), (h0_1, .inr (0, [.ref h0_1_0, .int u18.2.1])), (h0_1_0, .inl (c0_1_0, 600, .inl u18.2.2))] := hD
          have hP9 := hP.sub (ws' := [(h0, .inr (6, [.ref h0_0, .ref h0_1, .int v0_address, .int v0_file, .int v0_line, .int v0_column, .int v0_statement])), (h0_0, .inr (1, [.int v0_0_base, .int v0_0_range, .int v0_0_low, .int v0_0_start, .int v0_0_step])), (h0_1, .inr (0, [.ref h0_1_0, .int u18.2.1])), (h0_1_0, .inl (c0_1_0, 600, .inl u18.2.2))]) [0, 1, 2, 3] rfl
          have hD9 := hD.sub (ws' := [(h0, .inr (6, [.ref h0_0, .ref h0_1, .int v0_address, .int v0_file, .int v0_line, .int v0_column, .int v0_statement])), (h0_0, .inr (1, [.int v0_0_base, .int v0_0_range, .int v0_0_low, .int v0_0_start, .int v0_0_step])), (h0_1, .inr (0, [.ref h0_1_0, .int u18.2.1])), (h0_1_0, .inl (c0_1_0, 600, .inl u18.2.2))]) [0, 1, 2, 3] (by decide) rfl
          have hK9 := hK.sub (tys' := [(c0_1_0, .int)]) [0] rfl
          exact tw_out (E := E9) (fun x hx => (hEx x hx).elim) hlocks hce hcv hcl (fun t ht ha => ⟨(u18.1, (u18.2.1, u18.2.2)), hw, ⟨hE, by rw [ht]; exact hP9, va_K.moved ha hK9, hD9⟩, hS.F ht⟩) hS.2.2 (Nat.le_of_ble_eq_true rfl) (Nat.le_of_ble_eq_true rfl)
        · skip
          obtain ⟨hP1, hK1, hD1⟩ := hB
          rw [ht] at hP1
          have hK1 := va_K.moved hvm.symm hK1
          obtain ⟨hP, hD⟩ := va_join (wr := [(h0, .inr (6, [.ref h0_0, .ref h0_1, .int v0_address, .int v0_file, .int v0_line, .int v0_column, .int v0_statement])), (h0_0, .inr (1, [.int v0_0_base, .int v0_0_range, .int v0_0_low, .int v0_0_start, .int v0_0_step]))]) (w1 := [(h0_1, .inr (0, [.ref h0_1_0, .int u18.1])), (h0_1_0, .inl (c0_1_0, 600, .inl u18.2))]) hP hD [2, 3] [0, 1] rfl rfl (by decide) (by decide) hk1 hFc hP1 hD1
          generalize H1 = H at hP hS ⊢
          have hP : va_P (dC, dI) zC [(h0, .inr (6, [.ref h0_0, .ref h0_1, .int v0_address, .int v0_file, .int v0_line, .int v0_column, .int v0_statement])), (h0_0, .inr (1, [.int v0_0_base, .int v0_0_range, .int v0_0_low, .int v0_0_start, .int v0_0_step])), (h0_1, .inr (0, [.ref h0_1_0, .int u18.1])), (h0_1_0, .inl (c0_1_0, 600, .inl u18.2))] H := hP
          have hD : va_D A [(h0, .inr (6, [.ref h0_0, .ref h0_1, .int v0_address, .int v0_file, .int v0_line, .int v0_column, .int v0_statement])), (h0_0, .inr (1, [.int v0_0_base, .int v0_0_range, .int v0_0_low, .int v0_0_start, .int v0_0_step])), (h0_1, .inr (0, [.ref h0_1_0, .int u18.1])), (h0_1_0, .inl (c0_1_0, 600, .inl u18.2))] := hD
          refine W.widen (k := 0) (n := 0) (Nat.le_of_ble_eq_true rfl) (Nat.le_of_ble_eq_true rfl) ?_
          refine lv_aload_n hx hb zd_Wr_writeEnd_34 rfl (lv_at hl 0 rfl) ?_
          refine va_get (D := (dC, dI)) (ci := 6) (v := .ref h0_1) (C := zr_6) (T := zt_6) (N := 7) hx hb htb zi_6 hown hK hP 0 rfl rfl 1 (by decide) (htb _ zw_535) (fun _ h9 => h9) rfl zd_Wr_writeEnd_35 ?_
          refine lv_iconst (v := 1) hx hb zd_Wr_writeEnd_38 (by decide) ?_
          have hPc := hP.sub (ws' := [(h0_1, .inr (0, [.ref h0_1_0, .int u18.1])), (h0_1_0, .inl (c0_1_0, 600, .inl u18.2))]) [2, 3] rfl
          have hDc := hD.sub (ws' := [(h0_1, .inr (0, [.ref h0_1_0, .int u18.1])), (h0_1_0, .inl (c0_1_0, 600, .inl u18.2))]) [2, 3] (by decide) rfl
          have hKc := hK.sub (tys' := [(c0_1_0, .int)]) [0] rfl
          have hFc := va_free (wc := [(h0_1, .inr (0, [.ref h0_1_0, .int u18.1])), (h0_1_0, .inl (c0_1_0, 600, .inl u18.2))]) hD hS hA [2, 3] rfl
          refine tw_callv (tw_runV (As := [.int 1]) (rest := []) ⟨hx, hb, hml, hown, htb⟩ (mt_By_append l hl9 dC dI sa h0_1 h0_1_0 H.size c0_1_0 u18.1 u18.2 1 _ _ hw) (cwV 1 htb (zgV zw_565 zw_164 zw_165 zw_3 zw_166) rfl rfl rfl (by decide +kernel) ⟨(Nat.le_of_ble_eq_true rfl), (Nat.le_of_ble_eq_true rfl)⟩) ⟨zPx_blind, va_recv (ci := 0) (q0 := 2) hK hP rfl rfl, zPx_pre hZ hS hFc hPc hKc hDc⟩ rfl rfl hl.1 rfl (lv_room (Nat.le_of_ble_eq_true rfl)) zd_Wr_writeEnd_39 ⟨(Nat.le_of_ble_eq_true rfl), (Nat.le_of_ble_eq_true rfl)⟩) hS (fun q _ h => hFc q h) hFc (fun q _ h => hFc q h) (fun E9 ce9 q9 u21 t H1 locs ht hvm hw hB hz1 hk1 hS hce hcv hcl => ?_) (fun u21 t H1 locs ht hvm hw hB hz1 hk1 hS => ?_)
          · obtain ⟨hE, hB⟩ := hB
            obtain ⟨hP1, hK1, hD1⟩ := hB
            rw [ht] at hP1
            have hK1 := va_K.moved hvm.symm hK1
            obtain ⟨hP, hD⟩ := va_join (wr := [(h0, .inr (6, [.ref h0_0, .ref h0_1, .int v0_address, .int v0_file, .int v0_line, .int v0_column, .int v0_statement])), (h0_0, .inr (1, [.int v0_0_base, .int v0_0_range, .int v0_0_low, .int v0_0_start, .int v0_0_step]))]) (w1 := [(h0_1, .inr (0, [.ref h0_1_0, .int u21.2.1])), (h0_1_0, .inl (c0_1_0, 600, .inl u21.2.2))]) hP hD [2, 3] [0, 1] rfl rfl (by decide) (by decide) hk1 hFc hP1 hD1
            generalize H1 = H at hP hS hce ⊢
            have hP : va_P (dC, dI) zC [(h0, .inr (6, [.ref h0_0, .ref h0_1, .int v0_address, .int v0_file, .int v0_line, .int v0_column, .int v0_statement])), (h0_0, .inr (1, [.int v0_0_base, .int v0_0_range, .int v0_0_low, .int v0_0_start, .int v0_0_step])), (h0_1, .inr (0, [.ref h0_1_0, .int u21.2.1])), (h0_1_0, .inl (c0_1_0, 600, .inl u21.2.2))] H := hP
            have hD : va_D A [(h0, .inr (6, [.ref h0_0, .ref h0_1, .int v0_address, .int v0_file, .int v0_line, .int v0_column, .int v0_statement])), (h0_0, .inr (1, [.int v0_0_base, .int v0_0_range, .int v0_0_low, .int v0_0_start, .int v0_0_step])), (h0_1, .inr (0, [.ref h0_1_0, .int u21.2.1])), (h0_1_0, .inl (c0_1_0, 600, .inl u21.2.2))] := hD
            have hP9 := hP.sub (ws' := [(h0, .inr (6, [.ref h0_0, .ref h0_1, .int v0_address, .int v0_file, .int v0_line, .int v0_column, .int v0_statement])), (h0_0, .inr (1, [.int v0_0_base, .int v0_0_range, .int v0_0_low, .int v0_0_start, .int v0_0_step])), (h0_1, .inr (0, [.ref h0_1_0, .int u21.2.1])), (h0_1_0, .inl (c0_1_0, 600, .inl u21.2.2))]) [0, 1, 2, 3] rfl
            have hD9 := hD.sub (ws' := [(h0, .inr (6, [.ref h0_0, .ref h0_1, .int v0_address, .int v0_file, .int v0_line, .int v0_column, .int v0_statement])), (h0_0, .inr (1, [.int v0_0_base, .int v0_0_range, .int v0_0_low, .int v0_0_start, .int v0_0_step])), (h0_1, .inr (0, [.ref h0_1_0, .int u21.2.1])), (h0_1_0, .inl (c0_1_0, 600, .inl u21.2.2))]) [0, 1, 2, 3] (by decide) rfl
            have hK9 := hK.sub (tys' := [(c0_1_0, .int)]) [0] rfl
            exact tw_out (E := E9) (fun x hx => (hEx x hx).elim) hlocks hce hcv hcl (fun t ht ha => ⟨(u21.1, (u21.2.1, u21.2.2)), hw, ⟨hE, by rw [ht]; exact hP9, va_K.moved ha hK9, hD9⟩, hS.F ht⟩) hS.2.2 (Nat.le_of_ble_eq_true rfl) (Nat.le_of_ble_eq_true rfl)
          · skip
            obtain ⟨hP1, hK1, hD1⟩ := hB
            rw [ht] at hP1
            have hK1 := va_K.moved hvm.symm hK1
            obtain ⟨hP, hD⟩ := va_join (wr := [(h0, .inr (6, [.ref h0_0, .ref h0_1, .int v0_address, .int v0_file, .int v0_line, .int v0_column, .int v0_statement])), (h0_0, .inr (1, [.int v0_0_base, .int v0_0_range, .int v0_0_low, .int v0_0_start, .int v0_0_step]))]) (w1 := [(h0_1, .inr (0, [.ref h0_1_0, .int u21.1])), (h0_1_0, .inl (c0_1_0, 600, .inl u21.2))]) hP hD [2, 3] [0, 1] rfl rfl (by decide) (by decide) hk1 hFc hP1 hD1
            generalize H1 = H at hP hS ⊢
            have hP : va_P (dC, dI) zC [(h0, .inr (6, [.ref h0_0, .ref h0_1, .int v0_address, .int v0_file, .int v0_line, .int v0_column, .int v0_statement])), (h0_0, .inr (1, [.int v0_0_base, .int v0_0_range, .int v0_0_low, .int v0_0_start, .int v0_0_step])), (h0_1, .inr (0, [.ref h0_1_0, .int u21.1])), (h0_1_0, .inl (c0_1_0, 600, .inl u21.2))] H := hP
            have hD : va_D A [(h0, .inr (6, [.ref h0_0, .ref h0_1, .int v0_address, .int v0_file, .int v0_line, .int v0_column, .int v0_statement])), (h0_0, .inr (1, [.int v0_0_base, .int v0_0_range, .int v0_0_low, .int v0_0_start, .int v0_0_step])), (h0_1, .inr (0, [.ref h0_1_0, .int u21.1])), (h0_1_0, .inl (c0_1_0, 600, .inl u21.2))] := hD
            refine W.widen (k := 0) (n := 0) (Nat.le_of_ble_eq_true rfl) (Nat.le_of_ble_eq_true rfl) ?_
            refine lv_aload_n hx hb zd_Wr_writeEnd_42 rfl (lv_at hl 0 rfl) ?_
            refine va_get (D := (dC, dI)) (ci := 6) (v := .ref h0_1) (C := zr_6) (T := zt_6) (N := 7) hx hb htb zi_6 hown hK hP 0 rfl rfl 1 (by decide) (htb _ zw_535) (fun _ h9 => h9) rfl zd_Wr_writeEnd_43 ?_
            refine lv_iconst (v := 1) hx hb zd_Wr_writeEnd_46 (by decide) ?_
            have hPc := hP.sub (ws' := [(h0_1, .inr (0, [.ref h0_1_0, .int u21.1])), (h0_1_0, .inl (c0_1_0, 600, .inl u21.2))]) [2, 3] rfl
            have hDc := hD.sub (ws' := [(h0_1, .inr (0, [.ref h0_1_0, .int u21.1])), (h0_1_0, .inl (c0_1_0, 600, .inl u21.2))]) [2, 3] (by decide) rfl
            have hKc := hK.sub (tys' := [(c0_1_0, .int)]) [0] rfl
            have hFc := va_free (wc := [(h0_1, .inr (0, [.ref h0_1_0, .int u21.1])), (h0_1_0, .inl (c0_1_0, 600, .inl u21.2))]) hD hS hA [2, 3] rfl
            refine tw_callv (tw_runV (As := [.int 1]) (rest := []) ⟨hx, hb, hml, hown, htb⟩ (mt_By_append l hl9 dC dI sa h0_1 h0_1_0 H.size c0_1_0 u21.1 u21.2 1 _ _ hw) (cwV 1 htb (zgV zw_565 zw_164 zw_165 zw_3 zw_166) rfl rfl rfl (by decide +kernel) ⟨(Nat.le_of_ble_eq_true rfl), (Nat.le_of_ble_eq_true rfl)⟩) ⟨zPx_blind, va_recv (ci := 0) (q0 := 2) hK hP rfl rfl, zPx_pre hZ hS hFc hPc hKc hDc⟩ rfl rfl hl.1 rfl (lv_room (Nat.le_of_ble_eq_true rfl)) zd_Wr_writeEnd_47 ⟨(Nat.le_of_ble_eq_true rfl), (Nat.le_of_ble_eq_true rfl)⟩) hS (fun q _ h => hFc q h) hFc (fun q _ h => hFc q h) (fun E9 ce9 q9 u24 t H1 locs ht hvm hw hB hz1 hk1 hS hce hcv hcl => ?_) (fun u24 t H1 locs ht hvm hw hB hz1 hk1 hS => ?_)
            · obtain ⟨hE, hB⟩ := hB
              obtain ⟨hP1, hK1, hD1⟩ := hB
              rw [ht] at hP1
              have hK1 := va_K.moved hvm.symm hK1
              obtain ⟨hP, hD⟩ := va_join (wr := [(h0, .inr (6, [.ref h0_0, .ref h0_1, .int v0_address, .int v0_file, .int v0_line, .int v0_column, .int v0_statement])), (h0_0, .inr (1, [.int v0_0_base, .int v0_0_range, .int v0_0_low, .int v0_0_start, .int v0_0_step]))]) (w1 := [(h0_1, .inr (0, [.ref h0_1_0, .int u24.2.1])), (h0_1_0, .inl (c0_1_0, 600, .inl u24.2.2))]) hP hD [2, 3] [0, 1] rfl rfl (by decide) (by decide) hk1 hFc hP1 hD1
              generalize H1 = H at hP hS hce ⊢
              have hP : va_P (dC, dI) zC [(h0, .inr (6, [.ref h0_0, .ref h0_1, .int v0_address, .int v0_file, .int v0_line, .int v0_column, .int v0_statement])), (h0_0, .inr (1, [.int v0_0_base, .int v0_0_range, .int v0_0_low, .int v0_0_start, .int v0_0_step])), (h0_1, .inr (0, [.ref h0_1_0, .int u24.2.1])), (h0_1_0, .inl (c0_1_0, 600, .inl u24.2.2))] H := hP
              have hD : va_D A [(h0, .inr (6, [.ref h0_0, .ref h0_1, .int v0_address, .int v0_file, .int v0_line, .int v0_column, .int v0_statement])), (h0_0, .inr (1, [.int v0_0_base, .int v0_0_range, .int v0_0_low, .int v0_0_start, .int v0_0_step])), (h0_1, .inr (0, [.ref h0_1_0, .int u24.2.1])), (h0_1_0, .inl (c0_1_0, 600, .inl u24.2.2))] := hD
              have hP9 := hP.sub (ws' := [(h0, .inr (6, [.ref h0_0, .ref h0_1, .int v0_address, .int v0_file, .int v0_line, .int v0_column, .int v0_statement])), (h0_0, .inr (1, [.int v0_0_base, .int v0_0_range, .int v0_0_low, .int v0_0_start, .int v0_0_step])), (h0_1, .inr (0, [.ref h0_1_0, .int u24.2.1])), (h0_1_0, .inl (c0_1_0, 600, .inl u24.2.2))]) [0, 1, 2, 3] rfl
              have hD9 := hD.sub (ws' := [(h0, .inr (6, [.ref h0_0, .ref h0_1, .int v0_address, .int v0_file, .int v0_line, .int v0_column, .int v0_statement])), (h0_0, .inr (1, [.int v0_0_base, .int v0_0_range, .int v0_0_low, .int v0_0_start, .int v0_0_step])), (h0_1, .inr (0, [.ref h0_1_0, .int u24.2.1])), (h0_1_0, .inl (c0_1_0, 600, .inl u24.2.2))]) [0, 1, 2, 3] (by decide) rfl
              have hK9 := hK.sub (tys' := [(c0_1_0, .int)]) [0] rfl
              exact tw_out (E := E9) (fun x hx => (hEx x hx).elim) hlocks hce hcv hcl (fun t ht ha => ⟨(u24.1, (u24.2.1, u24.2.2)), hw, ⟨hE, by rw [ht]; exact hP9, va_K.moved ha hK9, hD9⟩, hS.F ht⟩) hS.2.2 (Nat.le_of_ble_eq_true rfl) (Nat.le_of_ble_eq_true rfl)
            · skip
              obtain ⟨hP1, hK1, hD1⟩ := hB
              rw [ht] at hP1
              have hK1 := va_K.moved hvm.symm hK1
              obtain ⟨hP, hD⟩ := va_join (wr := [(h0, .inr (6, [.ref h0_0, .ref h0_1, .int v0_address, .int v0_file, .int v0_line, .int v0_column, .int v0_statement])), (h0_0, .inr (1, [.int v0_0_base, .int v0_0_range, .int v0_0_low, .int v0_0_start, .int v0_0_step]))]) (w1 := [(h0_1, .inr (0, [.ref h0_1_0, .int u24.1])), (h0_1_0, .inl (c0_1_0, 600, .inl u24.2))]) hP hD [2, 3] [0, 1] rfl rfl (by decide) (by decide) hk1 hFc hP1 hD1
              generalize H1 = H at hP hS ⊢
              have hP : va_P (dC, dI) zC [(h0, .inr (6, [.ref h0_0, .ref h0_1, .int v0_address, .int v0_file, .int v0_line, .int v0_column, .int v0_statement])), (h0_0, .inr (1, [.int v0_0_base, .int v0_0_range, .int v0_0_low, .int v0_0_start, .int v0_0_step])), (h0_1, .inr (0, [.ref h0_1_0, .int u24.1])), (h0_1_0, .inl (c0_1_0, 600, .inl u24.2))] H := hP
              have hD : va_D A [(h0, .inr (6, [.ref h0_0, .ref h0_1, .int v0_address, .int v0_file, .int v0_line, .int v0_column, .int v0_statement])), (h0_0, .inr (1, [.int v0_0_base, .int v0_0_range, .int v0_0_low, .int v0_0_start, .int v0_0_step])), (h0_1, .inr (0, [.ref h0_1_0, .int u24.1])), (h0_1_0, .inl (c0_1_0, 600, .inl u24.2))] := hD
              refine W.widen (k := 0) (n := 0) (Nat.le_of_ble_eq_true rfl) (Nat.le_of_ble_eq_true rfl) ?_
              have hP9 := hP.sub (ws' := [(h0, .inr (6, [.ref h0_0, .ref h0_1, .int v0_address, .int v0_file, .int v0_line, .int v0_column, .int v0_statement])), (h0_0, .inr (1, [.int v0_0_base, .int v0_0_range, .int v0_0_low, .int v0_0_start, .int v0_0_step])), (h0_1, .inr (0, [.ref h0_1_0, .int u24.1])), (h0_1_0, .inl (c0_1_0, 600, .inl u24.2))]) [0, 1, 2, 3] rfl
              have hD9 := hD.sub (ws' := [(h0, .inr (6, [.ref h0_0, .ref h0_1, .int v0_address, .int v0_file, .int v0_line, .int v0_column, .int v0_statement])), (h0_0, .inr (1, [.int v0_0_base, .int v0_0_range, .int v0_0_low, .int v0_0_start, .int v0_0_step])), (h0_1, .inr (0, [.ref h0_1_0, .int u24.1])), (h0_1_0, .inl (c0_1_0, 600, .inl u24.2))]) [0, 1, 2, 3] (by decide) rfl
              have hK9 := hK.sub (tys' := [(c0_1_0, .int)]) [0] rfl
              refine W.widen (k := 0) (n := 0) (Nat.le_of_ble_eq_true rfl) (Nat.le_of_ble_eq_true rfl) ?_
              refine tw_ret ?_
              exact W.vret hx hb hr (fun t ht hW => ⟨⟨(u24.1, u24.2), rfl, hw, by rw [ht]; exact hP9, va_K.moved hW.alike hK9, hD9⟩, hS.F ht⟩) hS.2.2 zd_Wr_writeEnd_50
abbrev zo_Wr_writeAll : Room := { frames := 10, cells := 1, slots := 6, locals := 180 }
abbrev zb_Wr_writeAll (dC : Nat → ClassId) (dI : Nat → Nat → Nat) (A : Nat → Prop) (h0 h0_0 h0_1 h0_1_0 h1 h1_0 : Nat) (c0_1_0 c1_0 : ClassId) (v0_0_base : Int32) (v0_0_range : Int32) (v0_0_low : Int32) (v0_0_start : Int32) (v0_0_step : Int32) (v1_size : Int32) (g1_values : Nat → Int32) (u : Int32 × Int32 × Int32 × Int32 × Int32 × Int32 × (Nat → Int32)) (t : State) : Prop := va_P (dC, dI) zC [(h0, .inr (6, [.ref h0_0, .ref h0_1, .int u.1, .int u.2.1, .int u.2.2.1, .int u.2.2.2.1, .int u.2.2.2.2.1])), (h0_0, .inr (1, [.int v0_0_base, .int v0_0_range, .int v0_0_low, .int v0_0_start, .int v0_0_step])), (h0_1, .inr (0, [.ref h0_1_0, .int u.2.2.2.2.2.1])), (h0_1_0, .inl (c0_1_0, 600, .inl u.2.2.2.2.2.2)), (h1, .inr (5, [.ref h1_0, .int v1_size])), (h1_0, .inl (c1_0, 300, .inl g1_values))] t.heap ∧ va_K (dC, dI) zC [(c0_1_0, .int), (c1_0, .int)] t ∧ va_D A [(h0, .inr (6, [.ref h0_0, .ref h0_1, .int u.1, .int u.2.1, .int u.2.2.1, .int u.2.2.2.1, .int u.2.2.2.2.1])), (h0_0, .inr (1, [.int v0_0_base, .int v0_0_range, .int v0_0_low, .int v0_0_start, .int v0_0_step])), (h0_1, .inr (0, [.ref h0_1_0, .int u.2.2.2.2.2.1])), (h0_1_0, .inl (c0_1_0, 600, .inl u.2.2.2.2.2.2)), (h1, .inr (5, [.ref h1_0, .int v1_size])), (h1_0, .inl (c1_0, 300, .inl g1_values))]
abbrev zx_Wr_writeAll (dC : Nat → ClassId) (dI : Nat → Nat → Nat) (A : Nat → Prop) (h0 h0_0 h0_1 h0_1_0 h1 h1_0 : Nat) (c0_1_0 c1_0 : ClassId) (v0_0_base : Int32) (v0_0_range : Int32) (v0_0_low : Int32) (v0_0_start : Int32) (v0_0_step : Int32) (v1_size : Int32) (g1_values : Nat → Int32) (E : String) (u : Nat × (Int32 × Int32 × Int32 × Int32 × Int32 × Int32 × (Nat → Int32))) (t : State) : Prop := E = zE u.1 ∧ zb_Wr_writeAll dC dI A h0 h0_0 h0_1 h0_1_0 h1 h1_0 c0_1_0 c1_0 v0_0_base v0_0_range v0_0_low v0_0_start v0_0_step v1_size g1_values u.2 t
set_option maxHeartbeats 4000000 in
set_option maxRecDepth 100000 in
theorem mt_Wr_writeAll (l : Launch) (hl9 : l.stackTraces = false) (dC : Nat → ClassId) (dI : Nat → Nat → Nat) (sa : Nat → Nat) (h0 h0_0 h0_1 h0_1_0 h1 h1_0 sz : Nat) (c0_1_0 c1_0 : ClassId) (v0_address : Int32) (v0_file : Int32) (v0_line : Int32) (v0_column : Int32) (v0_statement : Int32) (v0_0_base : Int32) (v0_0_range : Int32) (v0_0_low : Int32) (v0_0_start : Int32) (v0_0_step : Int32) (v0_1_size : Int32) (g0_1_values : Nat → Int32) (v1_size : Int32) (g1_values : Nat → Int32) (p1 : Int32) (post : (Int32 × Int32 × Int32 × Int32 × Int32 × Int32 × (Nat → Int32)) → Prop) (postX : Nat × (Int32 × Int32 × Int32 × Int32 × Int32 × Int32 × (Nat → Int32)) → Prop) (hw : wp_Wr_writeAll v0_address v0_file v0_line v0_column v0_statement v0_0_base v0_0_range v0_0_low v0_0_step v0_1_size g0_1_values v1_size g1_values p1 post postX) : tw_Met l zy_Wr_writeAll zs_Wr_writeAll zo_Wr_writeAll (zPx dC dI sa [.ref h0, .ref h1, .int p1] sz [(h0, .inr (6, [.ref h0_0, .ref h0_1, .int v0_address, .int v0_file, .int v0_line, .int v0_column, .int v0_statement])), (h0_0, .inr (1, [.int v0_0_base, .int v0_0_range, .int v0_0_low, .int v0_0_start, .int v0_0_step])), (h0_1, .inr (0, [.ref h0_1_0, .int v0_1_size])), (h0_1_0, .inl (c0_1_0, 600, .inl g0_1_values)), (h1, .inr (5, [.ref h1_0, .int v1_size])), (h1_0, .inl (c1_0, 300, .inl g1_values))] [(c0_1_0, .int), (c1_0, .int)]) (va_Qv (fun (u : Int32 × Int32 × Int32 × Int32 × Int32 × Int32 × (Nat → Int32)) => post u) (zb_Wr_writeAll dC dI (va_A [(h0, .inr (6, [.ref h0_0, .ref h0_1, .int v0_address, .int v0_file, .int v0_line, .int v0_column, .int v0_statement])), (h0_0, .inr (1, [.int v0_0_base, .int v0_0_range, .int v0_0_low, .int v0_0_start, .int v0_0_step])), (h0_1, .inr (0, [.ref h0_1_0, .int v0_1_size])), (h0_1_0, .inl (c0_1_0, 600, .inl g0_1_values)), (h1, .inr (5, [.ref h1_0, .int v1_size])), (h1_0, .inl (c1_0, 300, .inl g1_values))] sz) h0 h0_0 h0_1 h0_1_0 h1 h1_0 c0_1_0 c1_0 v0_0_base v0_0_range v0_0_low v0_0_start v0_0_step v1_size g1_values) (va_A [(h0, .inr (6, [.ref h0_0, .ref h0_1, .int v0_address, .int v0_file, .int v0_line, .int v0_column, .int v0_statement])), (h0_0, .inr (1, [.int v0_0_base, .int v0_0_range, .int v0_0_low, .int v0_0_start, .int v0_0_step])), (h0_1, .inr (0, [.ref h0_1_0, .int v0_1_size])), (h0_1_0, .inl (c0_1_0, 600, .inl g0_1_values)), (h1, .inr (5, [.ref h1_0, .int v1_size])), (h1_0, .inl (c1_0, 300, .inl g1_values))] sz)) (vx_X (fun (u : Nat × (Int32 × Int32 × Int32 × Int32 × Int32 × Int32 × (Nat → Int32))) => postX u) (zx_Wr_writeAll dC dI (va_A [(h0, .inr (6, [.ref h0_0, .ref h0_1, .int v0_address, .int v0_file, .int v0_line, .int v0_column, .int v0_statement])), (h0_0, .inr (1, [.int v0_0_base, .int v0_0_range, .int v0_0_low, .int v0_0_start, .int v0_0_step])), (h0_1, .inr (0, [.ref h0_1_0, .int v0_1_size])), (h0_1_0, .inl (c0_1_0, 600, .inl g0_1_values)), (h1, .inr (5, [.ref h1_0, .int v1_size])), (h1_0, .inl (c1_0, 300, .inl g1_values))] sz) h0 h0_0 h0_1 h0_1_0 h1 h1_0 c0_1_0 c1_0 v0_0_base v0_0_range v0_0_low v0_0_start v0_0_step v1_size g1_values) (va_A [(h0, .inr (6, [.ref h0_0, .ref h0_1, .int v0_address, .int v0_file, .int v0_line, .int v0_column, .int v0_statement])), (h0_0, .inr (1, [.int v0_0_base, .int v0_0_range, .int v0_0_low, .int v0_0_start, .int v0_0_step])), (h0_1, .inr (0, [.ref h0_1_0, .int v0_1_size])), (h0_1_0, .inl (c0_1_0, 600, .inl g0_1_values)), (h1, .inr (5, [.ref h1_0, .int v1_size])), (h1_0, .inl (c1_0, 300, .inl g1_values))] sz)) 0 0 1 6 (va_A [(h0, .inr (6, [.ref h0_0, .ref h0_1, .int v0_address, .int v0_file, .int v0_line, .int v0_column, .int v0_statement])), (h0_0, .inr (1, [.int v0_0_base, .int v0_0_range, .int v0_0_low, .int v0_0_start, .int v0_0_step])), (h0_1, .inr (0, [.ref h0_1_0, .int v0_1_size])), (h0_1_0, .inl (c0_1_0, 600, .inl g0_1_values)), (h1, .inr (5, [.ref h1_0, .int v1_size])), (h1_0, .inl (c1_0, 300, .inl g1_values))] sz) := by
  unfold wp_Wr_writeAll at hw
  refine tw_ofW (cc := zc_Wr_writeAll) (maxL := 4) (ret := none) (by decide) rfl ?_
  intro p e s m args below meth c s₁ B hml hEx hv
  obtain ⟨rfl, hsz, hP, hK, hD0, hZ⟩ := hv
  have hx := B.exec
  have hb := B.bytes
  have hr := B.returns
  have hts := atoms_spec (ws := zs_Wr_writeAll) B.pre
  have htb := fun w (h : w ∈ zB) => hts w (List.mem_cons_of_mem _ h)
  have hown : s.vm.findClass zr_6 = some m.cls := findClass_of_methodNamed B.named
  have hlocks := B.notSynchronized
  subst hsz
  have hD := hD0.self (sz := s.heap.size)
  generalize hAe : va_A [(h0, .inr (6, [.ref h0_0, .ref h0_1, .int v0_address, .int v0_file, .int v0_line, .int v0_column, .int v0_statement])), (h0_0, .inr (1, [.int v0_0_base, .int v0_0_range, .int v0_0_low, .int v0_0_start, .int v0_0_step])), (h0_1, .inr (0, [.ref h0_1_0, .int v0_1_size])), (h0_1_0, .inl (c0_1_0, 600, .inl g0_1_values)), (h1, .inr (5, [.ref h1_0, .int v1_size])), (h1_0, .inl (c1_0, 300, .inl g1_values))] s.heap.size = A at hD hZ ⊢
  have hA : ∀ q : Nat, s.heap.size ≤ q → A q := fun q h => by rw [← hAe]; exact Or.inr h
  clear hAe hD0
  have hl := lv_entry ([.ref h0, .ref h1, .int p1]) (n := 4) (Nat.le_of_ble_eq_true rfl)
  rw [lg_entry_eq]
  generalize (lg_sl ([.ref h0, .ref h1, .int p1]) ++ List.replicate (4 - (lg_sl ([.ref h0, .ref h1, .int p1])).length) Slot.unset).toArray = ls at hl ⊢
  have hl : lv_has ls 4 [(0, .ref h0), (1, .ref h1), (2, .int p1)] := hl
  obtain ⟨H, hH⟩ : ∃ H, H = s.heap := ⟨_, rfl⟩
  have hS : va_S A s.heap H [] := by rw [hH]; exact va_S.rf
  rw [← hH] at hP ⊢
  refine lv_aload_n hx hb zd_Wr_writeAll_0 rfl (lv_at hl 0 rfl) ?_
  refine lv_aload_n hx hb zd_Wr_writeAll_1 rfl (lv_at hl 1 rfl) ?_
  refine lv_iconst (v := 0) hx hb zd_Wr_writeAll_2 (by decide) ?_
  refine lv_iconst (v := 0) hx hb zd_Wr_writeAll_3 (by decide) ?_
  have hPc := hP.sub (ws' := [(h1, .inr (5, [.ref h1_0, .int v1_size])), (h1_0, .inl (c1_0, 300, .inl g1_values))]) [4, 5] rfl
  have hDc := hD.sub (ws' := [(h1, .inr (5, [.ref h1_0, .int v1_size])), (h1_0, .inl (c1_0, 300, .inl g1_values))]) [4, 5] (by decide) rfl
  have hKc := hK.sub (tys' := [(c1_0, .int)]) [1] rfl
  have hFc := va_free (wc := [(h1, .inr (5, [.ref h1_0, .int v1_size])), (h1_0, .inl (c1_0, 300, .inl g1_values))]) hD hS hA [4, 5] rfl
  refine va_calli (va_runV (As := [.int 0, .int 0]) (rest := [.ref h0]) ⟨hx, hb, hml, hown, htb⟩ (mt_Ta_get l dC dI h1 h1_0 H.size c1_0 v1_size g1_values 0 0 _ hw) (cwV 2 htb (zgV zw_560 zw_506 zw_507 zw_5 zw_508) rfl rfl rfl (by decide +kernel) ⟨(Nat.le_of_ble_eq_true rfl), (Nat.le_of_ble_eq_true rfl)⟩) ⟨zP_blind, va_recv (ci := 5) (q0 := 4) hK hP rfl rfl, zP_pre hPc hKc hDc⟩ rfl rfl hl.1 rfl (lv_room (Nat.le_of_ble_eq_true rfl)) zd_Wr_writeAll_4 ⟨(Nat.le_of_ble_eq_true rfl), (Nat.le_of_ble_eq_true rfl)⟩) hS (fun q _ h => hFc q h) hFc (fun x2 u1 t H1 locs ht hvm hw hB hz1 hk1 hS => ?_)
  obtain ⟨hP1, hK1, hD1⟩ := hB
  rw [ht] at hP1
  have hK1 := va_K.moved hvm.symm hK1
  obtain ⟨hP, hD⟩ := va_join (wr := [(h0, .inr (6, [.ref h0_0, .ref h0_1, .int v0_address, .int v0_file, .int v0_line, .int v0_column, .int v0_statement])), (h0_0, .inr (1, [.int v0_0_base, .int v0_0_range, .int v0_0_low, .int v0_0_start, .int v0_0_step])), (h0_1, .inr (0, [.ref h0_1_0, .int v0_1_size])), (h0_1_0, .inl (c0_1_0, 600, .inl g0_1_values))]) (w1 := [(h1, .inr (5, [.ref h1_0, .int v1_size])), (h1_0, .inl (c1_0, 300, .inl g1_values))]) hP hD [4, 5] [0, 1, 2, 3] rfl rfl (by decide) (by decide) hk1 hFc hP1 hD1
  generalize H1 = H at hP hS ⊢
  have hP : va_P (dC, dI) zC [(h0, .inr (6, [.ref h0_0, .ref h0_1, .int v0_address, .int v0_file, .int v0_line, .int v0_column, .int v0_statement])), (h0_0, .inr (1, [.int v0_0_base, .int v0_0_range, .int v0_0_low, .int v0_0_start, .int v0_0_step])), (h0_1, .inr (0, [.ref h0_1_0, .int v0_1_size])), (h0_1_0, .inl (c0_1_0, 600, .inl g0_1_values)), (h1, .inr (5, [.ref h1_0, .int v1_size])), (h1_0, .inl (c1_0, 300, .inl g1_values))] H := hP
  have hD : va_D A [(h0, .inr (6, [.ref h0_0, .ref h0_1, .int v0_address, .int v0_file, .int v0_line, .int v0_column, .int v0_statement])), (h0_0, .inr (1, [.int v0_0_base, .int v0_0_range, .int v0_0_low, .int v0_0_start, .int v0_0_step])), (h0_1, .inr (0, [.ref h0_1_0, .int v0_1_size])), (h0_1_0, .inl (c0_1_0, 600, .inl g0_1_values)), (h1, .inr (5, [.ref h1_0, .int v1_size])), (h1_0, .inl (c1_0, 300, .inl g1_values))] := hD
  refine W.widen (k := 0) (n := 0) (Nat.le_of_ble_eq_true rfl) (Nat.le_of_ble_eq_true rfl) ?_
  have hPc := hP.sub (ws' := [(h0, .inr (6, [.ref h0_0, .ref h0_1, .int v0_address, .int v0_file, .int v0_line, .int v0_column, .int v0_statement])), (h0_0, .inr (1, [.int v0_0_base, .int v0_0_range, .int v0_0_low, .int v0_0_start, .int v0_0_step])), (h0_1, .inr (0, [.ref h0_1_0, .int v0_1_size])), (h0_1_0, .inl (c0_1_0, 600, .inl g0_1_values))]) [0, 1, 2, 3] rfl
  have hDc := hD.sub (ws' := [(h0, .inr (6, [.ref h0_0, .ref h0_1, .int v0_address, .int v0_file, .int v0_line, .int v0_column, .int v0_statement])), (h0_0, .inr (1, [.int v0_0_base, .int v0_0_range, .int v0_0_low, .int v0_0_start, .int v0_0_step])), (h0_1, .inr (0, [.ref h0_1_0, .int v0_1_size])), (h0_1_0, .inl (c0_1_0, 600, .inl g0_1_values))]) [0, 1, 2, 3] (by decide) rfl
  have hKc := hK.sub (tys' := [(c0_1_0, .int)]) [0] rfl
  have hFc := va_free (wc := [(h0, .inr (6, [.ref h0_0, .ref h0_1, .int v0_address, .int v0_file, .int v0_line, .int v0_column, .int v0_statement])), (h0_0, .inr (1, [.int v0_0_base, .int v0_0_range, .int v0_0_low, .int v0_0_start, .int v0_0_step])), (h0_1, .inr (0, [.ref h0_1_0, .int v0_1_size])), (h0_1_0, .inl (c0_1_0, 600, .inl g0_1_values))]) hD hS hA [0, 1, 2, 3] rfl
  refine tw_callv (tw_runV (As := [.int x2]) (rest := []) ⟨hx, hb, hml, hown, htb⟩ (mt_Wr_writeStart l hl9 dC dI sa h0 h0_0 h0_1 h0_1_0 H.size c0_1_0 v0_address v0_file v0_line v0_column v0_statement v0_0_base v0_0_range v0_0_low v0_0_start v0_0_step v0_1_size g0_1_values x2 _ _ hw) (cwV 1 htb (zgV zw_561 zw_563 zp_Wr_writeStart zw_18 zw_564) rfl rfl rfl (by decide +kernel) ⟨(Nat.le_of_ble_eq_true rfl), (Nat.le_of_ble_eq_true rfl)⟩) ⟨zPx_blind, va_recv (ci := 6) (q0 := 0) hK hP rfl rfl, zPx_pre hZ hS hFc hPc hKc hDc⟩ rfl rfl hl.1 rfl (lv_room (Nat.le_of_ble_eq_true rfl)) zd_Wr_writeAll_7 ⟨(Nat.le_of_ble_eq_true rfl), (Nat.le_of_ble_eq_true rfl)⟩) hS (fun q _ h => hFc q h) hFc (fun q _ h => hFc q h) (fun E9 ce9 q9 u4 t H1 locs ht hvm hw hB hz1 hk1 hS hce hcv hcl => ?_) (fun u4 t H1 locs ht hvm hw hB hz1 hk1 hS => ?_)
  · obtain ⟨hE, hB⟩ := hB
    obtain ⟨hP1, hK1, hD1⟩ := hB
    rw [ht] at hP1
    have hK1 := va_K.moved hvm.symm hK1
    obtain ⟨hP, hD⟩ := va_join (wr := [(h1, .inr (5, [.ref h1_0, .int v1_size])), (h1_0, .inl (c1_0, 300, .inl g1_values))]) (w1 := [(h0, .inr (6, [.ref h0_0, .ref h0_1, .int u4.2.1, .int v0_file, .int v0_line, .int v0_column, .int v0_statement])), (h0_0, .inr (1, [.int v0_0_base, .int v0_0_range, .int v0_0_low, .int v0_0_start, .int v0_0_step])), (h0_1, .inr (0, [.ref h0_1_0, .int u4.2.2.1])), (h0_1_0, .inl (c0_1_0, 600, .inl u4.2.2.2))]) hP hD [0, 1, 2, 3] [4, 5] rfl rfl (by decide) (by decide) hk1 hFc hP1 hD1
    generalize H1 = H at hP hS hce ⊢
    have hP : va_P (dC, dI) zC [(h1, .inr (5, [.ref h1_0, .int v1_size])), (h1_0, .inl (c1_0, 300, .inl g1_values)), (h0, .inr (6, [.ref h0_0, .ref h0_1, .int u4.2.1, .int v0_file, .int v0_line, .int v0_column, .int v0_statement])), (h0_0, .inr (1, [.int v0_0_base, .int v0_0_range, .int v0_0_low, .int v0_0_start, .int v0_0_step])), (h0_1, .inr (0, [.ref h0_1_0, .int u4.2.2.1])), (h0_1_0, .inl (c0_1_0, 600, .inl u4.2.2.2))] H := hP
    have hD : va_D A [(h1, .inr (5, [.ref h1_0, .int v1_size])), (h1_0, .inl (c1_0, 300, .inl g1_values)), (h0, .inr (6, [.ref h0_0, .ref h0_1, .int u4.2.1, .int v0_file, .int v0_line, .int v0_column, .int v0_statement])), (h0_0, .inr (1, [.int v0_0_base, .int v0_0_range, .int v0_0_low, .int v0_0_start, .int v0_0_step])), (h0_1, .inr (0, [.ref h0_1_0, .int u4.2.2.1])), (h0_1_0, .inl (c0_1_0, 600, .inl u4.2.2.2))] := hD
    have hP9 := hP.sub (ws' := [(h0, .inr (6, [.ref h0_0, .ref h0_1, .int u4.2.1, .int v0_file, .int v0_line, .int v0_column, .int v0_statement])), (h0_0, .inr (1, [.int v0_0_base, .int v0_0_range, .int v0_0_low, .int v0_0_start, .int v0_0_step])), (h0_1, .inr (0, [.ref h0_1_0, .int u4.2.2.1])), (h0_1_0, .inl (c0_1_0, 600, .inl u4.2.2.2)), (h1, .inr (5, [.ref h1_0, .int v1_size])), (h1_0, .inl (c1_0, 300, .inl g1_values))]) [2, 3, 4, 5, 0, 1] rfl
    have hD9 := hD.sub (ws' := [(h0, .inr (6, [.ref h0_0, .ref h0_1, .int u4.2.1, .int v0_file, .int v0_line, .int v0_column, .int v0_statement])), (h0_0, .inr (1, [.int v0_0_base, .int v0_0_range, .int v0_0_low, .int v0_0_start, .int v0_0_step])), (h0_1, .inr (0, [.ref h0_1_0, .int u4.2.2.1])), (h0_1_0, .inl (c0_1_0, 600, .inl u4.2.2.2)), (h1, .inr (5, [.ref h1_0, .int v1_size])), (h1_0, .inl (c1_0, 300, .inl g1_values))]) [2, 3, 4, 5, 0, 1] (by decide) rfl
    have hK9 := hK.sub (tys' := [(c0_1_0, .int), (c1_0, .int)]) [0, 1] rfl
    exact tw_out (E := E9) (fun x hx => (hEx x hx).elim) hlocks hce hcv hcl (fun t ht ha => ⟨(u4.1, (u4.2.1, v0_file, v0_line, v0_column, v0_statement, u4.2.2.1, u4.2.2.2)), hw, ⟨hE, by rw [ht]; exact hP9, va_K.moved ha hK9, hD9⟩, hS.F ht⟩) hS.2.2 (Nat.le_of_ble_eq_true rfl) (Nat.le_of_ble_eq_true rfl)
  · skip
    obtain ⟨hP1, hK1, hD1⟩ := hB
    rw [ht] at hP1
    have hK1 := va_K.moved hvm.symm hK1
    obtain ⟨hP, hD⟩ := va_join (wr := [(h1, .inr (5, [.ref h1_0, .int v1_size])), (h1_0, .inl (c1_0, 300, .inl g1_values))]) (w1 := [(h0, .inr (6, [.ref h0_0, .ref h0_1, .int u4.1, .int v0_file, .int v0_line, .int v0_column, .int v0_statement])), (h0_0, .inr (1, [.int v0_0_base, .int v0_0_range, .int v0_0_low, .int v0_0_start, .int v0_0_step])), (h0_1, .inr (0, [.ref h0_1_0, .int u4.2.1])), (h0_1_0, .inl (c0_1_0, 600, .inl u4.2.2))]) hP hD [0, 1, 2, 3] [4, 5] rfl rfl (by decide) (by decide) hk1 hFc hP1 hD1
    generalize H1 = H at hP hS ⊢
    have hP : va_P (dC, dI) zC [(h1, .inr (5, [.ref h1_0, .int v1_size])), (h1_0, .inl (c1_0, 300, .inl g1_values)), (h0, .inr (6, [.ref h0_0, .ref h0_1, .int u4.1, .int v0_file, .int v0_line, .int v0_column, .int v0_statement])), (h0_0, .inr (1, [.int v0_0_base, .int v0_0_range, .int v0_0_low, .int v0_0_start, .int v0_0_step])), (h0_1, .inr (0, [.ref h0_1_0, .int u4.2.1])), (h0_1_0, .inl (c0_1_0, 600, .inl u4.2.2))] H := hP
    have hD : va_D A [(h1, .inr (5, [.ref h1_0, .int v1_size])), (h1_0, .inl (c1_0, 300, .inl g1_values)), (h0, .inr (6, [.ref h0_0, .ref h0_1, .int u4.1, .int v0_file, .int v0_line, .int v0_column, .int v0_statement])), (h0_0, .inr (1, [.int v0_0_base, .int v0_0_range, .int v0_0_low, .int v0_0_start, .int v0_0_step])), (h0_1, .inr (0, [.ref h0_1_0, .int u4.2.1])), (h0_1_0, .inl (c0_1_0, 600, .inl u4.2.2))] := hD
    refine W.widen (k := 0) (n := 0) (Nat.le_of_ble_eq_true rfl) (Nat.le_of_ble_eq_true rfl) ?_
    refine lv_iconst (v := 0) hx hb zd_Wr_writeAll_10 (by decide) ?_
    refine lv_istore_n (i := 3) (lv' := [(3, .int 0), (0, .ref h0), (1, .ref h1), (2, .int p1)]) hx hb zd_Wr_writeAll_11 rfl hl (by decide) rfl (fun ls hl => ?_)
    have lp12 : ∀ (k : Nat) (v39 : Nat → Int32) (v40 : Int32) (v41 : Int32) (v42 : Int32) (v43 : Int32) (v44 : Int32) (v45 : Int32) (v46 : Int32) (ls : Array Slot) (H : Heap) (locs : List Loc), lv_has ls 4 [(3, .int v46), (0, .ref h0), (1, .ref h1), (2, .int p1)] → va_P (dC, dI) zC [(h1, .inr (5, [.ref h1_0, .int v1_size])), (h1_0, .inl (c1_0, 300, .inl g1_values)), (h0, .inr (6, [.ref h0_0, .ref h0_1, .int v40, .int v41, .int v42, .int v43, .int v44])), (h0_0, .inr (1, [.int v0_0_base, .int v0_0_range, .int v0_0_low, .int v0_0_start, .int v0_0_step])), (h0_1, .inr (0, [.ref h0_1_0, .int v45])), (h0_1_0, .inl (c0_1_0, 600, .inl v39))] H → va_D A [(h1, .inr (5, [.ref h1_0, .int v1_size])), (h1_0, .inl (c1_0, 300, .inl g1_values)), (h0, .inr (6, [.ref h0_0, .ref h0_1, .int v40, .int v41, .int v42, .int v43, .int v44])), (h0_0, .inr (1, [.int v0_0_base, .int v0_0_range, .int v0_0_low, .int v0_0_start, .int v0_0_step])), (h0_1, .inr (0, [.ref h0_1_0, .int v45])), (h0_1_0, .inl (c0_1_0, 600, .inl v39))] → va_S A s.heap H locs → wl_Wr_writeAll_12 v0_0_base v0_0_range v0_0_low v0_0_step v1_size g1_values p1 post postX k v39 v40 v41 v42 v43 v44 v45 v46 → W p l e (headSpec zs_Wr_writeAll zo_Wr_writeAll).room s m [.ref h0, .ref h1, .int p1].toArray below meth c H locs 0 0 (tw_MQ below (va_Qv (fun (u : Int32 × Int32 × Int32 × Int32 × Int32 × Int32 × (Nat → Int32)) => post u) (zb_Wr_writeAll dC dI A h0 h0_0 h0_1 h0_1_0 h1 h1_0 c0_1_0 c1_0 v0_0_base v0_0_range v0_0_low v0_0_start v0_0_step v1_size g1_values) A) (vx_X (fun (u : Nat × (Int32 × Int32 × Int32 × Int32 × Int32 × Int32 × (Nat → Int32))) => postX u) (zx_Wr_writeAll dC dI A h0 h0_0 h0_1 h0_1_0 h1 h1_0 c0_1_0 c1_0 v0_0_base v0_0_range v0_0_low v0_0_start v0_0_step v1_size g1_values) A) [.ref h0, .ref h1, .int p1].toArray s 0 0 1 6 A) (F0 m 12 ls []) := by
      intro k
      induction k with
      | zero => intro v39 v40 v41 v42 v43 v44 v45 v46 ls H locs hl hP hD hS hw; exact False.elim hw
      | succ k ih =>
        intro v39 v40 v41 v42 v43 v44 v45 v46 ls H locs hl hP hD hS hw
        refine lv_iload_n hx hb zd_Wr_writeAll_12 rfl (lv_at hl 0 rfl) ?_
        refine lv_aload_n hx hb zd_Wr_writeAll_13 rfl (lv_at hl 2 rfl) ?_
        refine va_get (D := (dC, dI)) (ci := 5) (v := .int v1_size) (C := zr_5) (T := zt_5) (N := 2) hx hb htb zi_5 hown hK hP 0 rfl rfl 1 (by decide) (htb _ zw_98) (fun _ h9 => h9) rfl zd_Wr_writeAll_14 ?_
        refine lv_icmp_ge (tgt := 72) hx hb zd_Wr_writeAll_17 (by decide) (fun h47 => ?_) (fun h47 => ?_)
        · have hw := hw.1 h47
          refine lv_aload_n hx hb zd_Wr_writeAll_72 rfl (lv_at hl 1 rfl) ?_
          refine lv_iload_n hx hb zd_Wr_writeAll_73 rfl (lv_at hl 3 rfl) ?_
          have hPc := hP.sub (ws' := [(h0, .inr (6, [.ref h0_0, .ref h0_1, .int v40, .int v41, .int v42, .int v43, .int v44])), (h0_0, .inr (1, [.int v0_0_base, .int v0_0_range, .int v0_0_low, .int v0_0_start, .int v0_0_step])), (h0_1, .inr (0, [.ref h0_1_0, .int v45])), (h0_1_0, .inl (c0_1_0, 600, .inl v39))]) [2, 3, 4, 5] rfl
          have hDc := hD.sub (ws' := [(h0, .inr (6, [.ref h0_0, .ref h0_1, .int v40, .int v41, .int v42, .int v43, .int v44])), (h0_0, .inr (1, [.int v0_0_base, .int v0_0_range, .int v0_0_low, .int v0_0_start, .int v0_0_step])), (h0_1, .inr (0, [.ref h0_1_0, .int v45])), (h0_1_0, .inl (c0_1_0, 600, .inl v39))]) [2, 3, 4, 5] (by decide) rfl
          have hKc := hK.sub (tys' := [(c0_1_0, .int)]) [0] rfl
          have hFc := va_free (wc := [(h0, .inr (6, [.ref h0_0, .ref h0_1, .int v40, .int v41, .int v42, .int v43, .int v44])), (h0_0, .inr (1, [.int v0_0_base, .int v0_0_range, .int v0_0_low, .int v0_0_start, .int v0_0_step])), (h0_1, .inr (0, [.ref h0_1_0, .int v45])), (h0_1_0, .inl (c0_1_0, 600, .inl v39))]) hD hS hA [2, 3, 4, 5] rfl
          refine tw_callv (tw_runV (As := [.int p1]) (rest := []) ⟨hx, hb, hml, hown, htb⟩ (mt_Wr_writeEnd l hl9 dC dI sa h0 h0_0 h0_1 h0_1_0 H.size c0_1_0 v40 v41 v42 v43 v44 v0_0_base v0_0_range v0_0_low v0_0_start v0_0_step v45 v39 p1 _ _ hw) (cwV 1 htb (zgV zw_602 zw_604 zp_Wr_writeEnd zw_18 zw_605) rfl rfl rfl (by decide +kernel) ⟨(Nat.le_of_ble_eq_true rfl), (Nat.le_of_ble_eq_true rfl)⟩) ⟨zPx_blind, va_recv (ci := 6) (q0 := 2) hK hP rfl rfl, zPx_pre hZ hS hFc hPc hKc hDc⟩ rfl rfl hl.1 rfl (lv_room (Nat.le_of_ble_eq_true rfl)) zd_Wr_writeAll_74 ⟨(Nat.le_of_ble_eq_true rfl), (Nat.le_of_ble_eq_true rfl)⟩) hS (fun q _ h => hFc q h) hFc (fun q _ h => hFc q h) (fun E9 ce9 q9 u48 t H1 locs ht hvm hw hB hz1 hk1 hS hce hcv hcl => ?_) (fun u48 t H1 locs ht hvm hw hB hz1 hk1 hS => ?_)
          · obtain ⟨hE, hB⟩ := hB
            obtain ⟨hP1, hK1, hD1⟩ := hB
            rw [ht] at hP1
            have hK1 := va_K.moved hvm.symm hK1
            obtain ⟨hP, hD⟩ := va_join (wr := [(h1, .inr (5, [.ref h1_0, .int v1_size])), (h1_0, .inl (c1_0, 300, .inl g1_values))]) (w1 := [(h0, .inr (6, [.ref h0_0, .ref h0_1, .int v40, .int v41, .int v42, .int v43, .int v44])), (h0_0, .inr (1, [.int v0_0_base, .int v0_0_range, .int v0_0_low, .int v0_0_start, .int v0_0_step])), (h0_1, .inr (0, [.ref h0_1_0, .int u48.2.1])), (h0_1_0, .inl (c0_1_0, 600, .inl u48.2.2))]) hP hD [2, 3, 4, 5] [0, 1] rfl rfl (by decide) (by decide) hk1 hFc hP1 hD1
            generalize H1 = H at hP hS hce ⊢
            have hP : va_P (dC, dI) zC [(h1, .inr (5, [.ref h1_0, .int v1_size])), (h1_0, .inl (c1_0, 300, .inl g1_values)), (h0, .inr (6, [.ref h0_0, .ref h0_1, .int v40, .int v41, .int v42, .int v43, .int v44])), (h0_0, .inr (1, [.int v0_0_base, .int v0_0_range, .int v0_0_low, .int v0_0_start, .int v0_0_step])), (h0_1, .inr (0, [.ref h0_1_0, .int u48.2.1])), (h0_1_0, .inl (c0_1_0, 600, .inl u48.2.2))] H := hP
            have hD : va_D A [(h1, .inr (5, [.ref h1_0, .int v1_size])), (h1_0, .inl (c1_0, 300, .inl g1_values)), (h0, .inr (6, [.ref h0_0, .ref h0_1, .int v40, .int v41, .int v42, .int v43, .int v44])), (h0_0, .inr (1, [.int v0_0_base, .int v0_0_range, .int v0_0_low, .int v0_0_start, .int v0_0_step])), (h0_1, .inr (0, [.ref h0_1_0, .int u48.2.1])), (h0_1_0, .inl (c0_1_0, 600, .inl u48.2.2))] := hD
            have hP9 := hP.sub (ws' := [(h0, .inr (6, [.ref h0_0, .ref h0_1, .int v40, .int v41, .int v42, .int v43, .int v44])), (h0_0, .inr (1, [.int v0_0_base, .int v0_0_range, .int v0_0_low, .int v0_0_start, .int v0_0_step])), (h0_1, .inr (0, [.ref h0_1_0, .int u48.2.1])), (h0_1_0, .inl (c0_1_0, 600, .inl u48.2.2)), (h1, .inr (5, [.ref h1_0, .int v1_size])), (h1_0, .inl (c1_0, 300, .inl g1_values))]) [2, 3, 4, 5, 0, 1] rfl
            have hD9 := hD.sub (ws' := [(h0, .inr (6, [.ref h0_0, .ref h0_1, .int v40, .int v41, .int v42, .int v43, .int v44])), (h0_0, .inr (1, [.int v0_0_base, .int v0_0_range, .int v0_0_low, .int v0_0_start, .int v0_0_step])), (h0_1, .inr (0, [.ref h0_1_0, .int u48.2.1])), (h0_1_0, .inl (c0_1_0, 600, .inl u48.2.2)), (h1, .inr (5, [.ref h1_0, .int v1_size])), (h1_0, .inl (c1_0, 300, .inl g1_values))]) [2, 3, 4, 5, 0, 1] (by decide) rfl
            have hK9 := hK.sub (tys' := [(c0_1_0, .int), (c1_0, .int)]) [0, 1] rfl
            exact tw_out (E := E9) (fun x hx => (hEx x hx).elim) hlocks hce hcv hcl (fun t ht ha => ⟨(u48.1, (v40, v41, v42, v43, v44, u48.2.1, u48.2.2)), hw, ⟨hE, by rw [ht]; exact hP9, va_K.moved ha hK9, hD9⟩, hS.F ht⟩) hS.2.2 (Nat.le_of_ble_eq_true rfl) (Nat.le_of_ble_eq_true rfl)
          · skip
            obtain ⟨hP1, hK1, hD1⟩ := hB
            rw [ht] at hP1
            have hK1 := va_K.moved hvm.symm hK1
            obtain ⟨hP, hD⟩ := va_join (wr := [(h1, .inr (5, [.ref h1_0, .int v1_size])), (h1_0, .inl (c1_0, 300, .inl g1_values))]) (w1 := [(h0, .inr (6, [.ref h0_0, .ref h0_1, .int v40, .int v41, .int v42, .int v43, .int v44])), (h0_0, .inr (1, [.int v0_0_base, .int v0_0_range, .int v0_0_low, .int v0_0_start, .int v0_0_step])), (h0_1, .inr (0, [.ref h0_1_0, .int u48.1])), (h0_1_0, .inl (c0_1_0, 600, .inl u48.2))]) hP hD [2, 3, 4, 5] [0, 1] rfl rfl (by decide) (by decide) hk1 hFc hP1 hD1
            generalize H1 = H at hP hS ⊢
            have hP : va_P (dC, dI) zC [(h1, .inr (5, [.ref h1_0, .int v1_size])), (h1_0, .inl (c1_0, 300, .inl g1_values)), (h0, .inr (6, [.ref h0_0, .ref h0_1, .int v40, .int v41, .int v42, .int v43, .int v44])), (h0_0, .inr (1, [.int v0_0_base, .int v0_0_range, .int v0_0_low, .int v0_0_start, .int v0_0_step])), (h0_1, .inr (0, [.ref h0_1_0, .int u48.1])), (h0_1_0, .inl (c0_1_0, 600, .inl u48.2))] H := hP
            have hD : va_D A [(h1, .inr (5, [.ref h1_0, .int v1_size])), (h1_0, .inl (c1_0, 300, .inl g1_values)), (h0, .inr (6, [.ref h0_0, .ref h0_1, .int v40, .int v41, .int v42, .int v43, .int v44])), (h0_0, .inr (1, [.int v0_0_base, .int v0_0_range, .int v0_0_low, .int v0_0_start, .int v0_0_step])), (h0_1, .inr (0, [.ref h0_1_0, .int u48.1])), (h0_1_0, .inl (c0_1_0, 600, .inl u48.2))] := hD
            refine W.widen (k := 0) (n := 0) (Nat.le_of_ble_eq_true rfl) (Nat.le_of_ble_eq_true rfl) ?_
            have hP9 := hP.sub (ws' := [(h0, .inr (6, [.ref h0_0, .ref h0_1, .int v40, .int v41, .int v42, .int v43, .int v44])), (h0_0, .inr (1, [.int v0_0_base, .int v0_0_range, .int v0_0_low, .int v0_0_start, .int v0_0_step])), (h0_1, .inr (0, [.ref h0_1_0, .int u48.1])), (h0_1_0, .inl (c0_1_0, 600, .inl u48.2)), (h1, .inr (5, [.ref h1_0, .int v1_size])), (h1_0, .inl (c1_0, 300, .inl g1_values))]) [2, 3, 4, 5, 0, 1] rfl
            have hD9 := hD.sub (ws' := [(h0, .inr (6, [.ref h0_0, .ref h0_1, .int v40, .int v41, .int v42, .int v43, .int v44])), (h0_0, .inr (1, [.int v0_0_base, .int v0_0_range, .int v0_0_low, .int v0_0_start, .int v0_0_step])), (h0_1, .inr (0, [.ref h0_1_0, .int u48.1])), (h0_1_0, .inl (c0_1_0, 600, .inl u48.2)), (h1, .inr (5, [.ref h1_0, .int v1_size])), (h1_0, .inl (c1_0, 300, .inl g1_values))]) [2, 3, 4, 5, 0, 1] (by decide) rfl
            have hK9 := hK.sub (tys' := [(c0_1_0, .int), (c1_0, .int)]) [0, 1] rfl
            refine W.widen (k := 0) (n := 0) (Nat.le_of_ble_eq_true rfl) (Nat.le_of_ble_eq_true rfl) ?_
            refine tw_ret ?_
            exact W.vret hx hb hr (fun t ht hW => ⟨⟨(v40, v41, v42, v43, v44, u48.1, u48.2), rfl, hw, by rw [ht]; exact hP9, va_K.moved hW.alike hK9, hD9⟩, hS.F ht⟩) hS.2.2 zd_Wr_writeAll_77
        · have hw := hw.2 h47
          refine lv_aload_n hx hb zd_Wr_writeAll_20 rfl (lv_at hl 1 rfl) ?_
          refine lv_aload_n hx hb zd_Wr_writeAll_21 rfl (lv_at hl 2 rfl) ?_
          refine lv_iload_n hx hb zd_Wr_writeAll_22 rfl (lv_at hl 0 rfl) ?_
          refine lv_iconst (v := 1) hx hb zd_Wr_writeAll_23 (by decide) ?_
          have hPc := hP.sub (ws' := [(h1, .inr (5, [.ref h1_0, .int v1_size])), (h1_0, .inl (c1_0, 300, .inl g1_values))]) [0, 1] rfl
          have hDc := hD.sub (ws' := [(h1, .inr (5, [.ref h1_0, .int v1_size])), (h1_0, .inl (c1_0, 300, .inl g1_values))]) [0, 1] (by decide) rfl
          have hKc := hK.sub (tys' := [(c1_0, .int)]) [1] rfl
          have hFc := va_free (wc := [(h1, .inr (5, [.ref h1_0, .int v1_size])), (h1_0, .inl (c1_0, 300, .inl g1_values))]) hD hS hA [0, 1] rfl
          refine va_calli (va_runV (As := [.int v46, .int 1]) (rest := [.ref h0]) ⟨hx, hb, hml, hown, htb⟩ (mt_Ta_get l dC dI h1 h1_0 H.size c1_0 v1_size g1_values v46 1 _ hw) (cwV 2 htb (zgV zw_560 zw_506 zw_507 zw_5 zw_508) rfl rfl rfl (by decide +kernel) ⟨(Nat.le_of_ble_eq_true rfl), (Nat.le_of_ble_eq_true rfl)⟩) ⟨zP_blind, va_recv (ci := 5) (q0 := 0) hK hP rfl rfl, zP_pre hPc hKc hDc⟩ rfl rfl hl.1 rfl (lv_room (Nat.le_of_ble_eq_true rfl)) zd_Wr_writeAll_24 ⟨(Nat.le_of_ble_eq_true rfl), (Nat.le_of_ble_eq_true rfl)⟩) hS (fun q _ h => hFc q h) hFc (fun x52 u51 t H1 locs ht hvm hw hB hz1 hk1 hS => ?_)
          obtain ⟨hP1, hK1, hD1⟩ := hB
          rw [ht] at hP1
          have hK1 := va_K.moved hvm.symm hK1
          obtain ⟨hP, hD⟩ := va_join (wr := [(h0, .inr (6, [.ref h0_0, .ref h0_1, .int v40, .int v41, .int v42, .int v43, .int v44])), (h0_0, .inr (1, [.int v0_0_base, .int v0_0_range, .int v0_0_low, .int v0_0_start, .int v0_0_step])), (h0_1, .inr (0, [.ref h0_1_0, .int v45])), (h0_1_0, .inl (c0_1_0, 600, .inl v39))]) (w1 := [(h1, .inr (5, [.ref h1_0, .int v1_size])), (h1_0, .inl (c1_0, 300, .inl g1_values))]) hP hD [0, 1] [2, 3, 4, 5] rfl rfl (by decide) (by decide) hk1 hFc hP1 hD1
          generalize H1 = H at hP hS ⊢
          have hP : va_P (dC, dI) zC [(h0, .inr (6, [.ref h0_0, .ref h0_1, .int v40, .int v41, .int v42, .int v43, .int v44])), (h0_0, .inr (1, [.int v0_0_base, .int v0_0_range, .int v0_0_low, .int v0_0_start, .int v0_0_step])), (h0_1, .inr (0, [.ref h0_1_0, .int v45])), (h0_1_0, .inl (c0_1_0, 600, .inl v39)), (h1, .inr (5, [.ref h1_0, .int v1_size])), (h1_0, .inl (c1_0, 300, .inl g1_values))] H := hP
          have hD : va_D A [(h0, .inr (6, [.ref h0_0, .ref h0_1, .int v40, .int v41, .int v42, .int v43, .int v44])), (h0_0, .inr (1, [.int v0_0_base, .int v0_0_range, .int v0_0_low, .int v0_0_start, .int v0_0_step])), (h0_1, .inr (0, [.ref h0_1_0, .int v45])), (h0_1_0, .inl (c0_1_0, 600, .inl v39)), (h1, .inr (5, [.ref h1_0, .int v1_size])), (h1_0, .inl (c1_0, 300, .inl g1_values))] := hD
          refine W.widen (k := 0) (n := 0) (Nat.le_of_ble_eq_true rfl) (Nat.le_of_ble_eq_true rfl) ?_
          have hPc := hP.sub (ws' := [(h0, .inr (6, [.ref h0_0, .ref h0_1, .int v40, .int v41, .int v42, .int v43, .int v44])), (h0_0, .inr (1, [.int v0_0_base, .int v0_0_range, .int v0_0_low, .int v0_0_start, .int v0_0_step])), (h0_1, .inr (0, [.ref h0_1_0, .int v45])), (h0_1_0, .inl (c0_1_0, 600, .inl v39))]) [0, 1, 2, 3] rfl
          have hDc := hD.sub (ws' := [(h0, .inr (6, [.ref h0_0, .ref h0_1, .int v40, .int v41, .int v42, .int v43, .int v44])), (h0_0, .inr (1, [.int v0_0_base, .int v0_0_range, .int v0_0_low, .int v0_0_start, .int v0_0_step])), (h0_1, .inr (0, [.ref h0_1_0, .int v45])), (h0_1_0, .inl (c0_1_0, 600, .inl v39))]) [0, 1, 2, 3] (by decide) rfl
          have hKc := hK.sub (tys' := [(c0_1_0, .int)]) [0] rfl
          have hFc := va_free (wc := [(h0, .inr (6, [.ref h0_0, .ref h0_1, .int v40, .int v41, .int v42, .int v43, .int v44])), (h0_0, .inr (1, [.int v0_0_base, .int v0_0_range, .int v0_0_low, .int v0_0_start, .int v0_0_step])), (h0_1, .inr (0, [.ref h0_1_0, .int v45])), (h0_1_0, .inl (c0_1_0, 600, .inl v39))]) hD hS hA [0, 1, 2, 3] rfl
          refine tw_callv (tw_runV (As := [.int x52]) (rest := []) ⟨hx, hb, hml, hown, htb⟩ (mt_Wr_writeFile l hl9 dC dI sa h0 h0_0 h0_1 h0_1_0 H.size c0_1_0 v40 v41 v42 v43 v44 v0_0_base v0_0_range v0_0_low v0_0_start v0_0_step v45 v39 x52 _ _ hw) (cwV 1 htb (zgV zw_566 zw_568 zp_Wr_writeFile zw_18 zw_569) rfl rfl rfl (by decide +kernel) ⟨(Nat.le_of_ble_eq_true rfl), (Nat.le_of_ble_eq_true rfl)⟩) ⟨zPx_blind, va_recv (ci := 6) (q0 := 0) hK hP rfl rfl, zPx_pre hZ hS hFc hPc hKc hDc⟩ rfl rfl hl.1 rfl (lv_room (Nat.le_of_ble_eq_true rfl)) zd_Wr_writeAll_27 ⟨(Nat.le_of_ble_eq_true rfl), (Nat.le_of_ble_eq_true rfl)⟩) hS (fun q _ h => hFc q h) hFc (fun q _ h => hFc q h) (fun E9 ce9 q9 u54 t H1 locs ht hvm hw hB hz1 hk1 hS hce hcv hcl => ?_) (fun u54 t H1 locs ht hvm hw hB hz1 hk1 hS => ?_)
          · obtain ⟨hE, hB⟩ := hB
            obtain ⟨hP1, hK1, hD1⟩ := hB
            rw [ht] at hP1
            have hK1 := va_K.moved hvm.symm hK1
            obtain ⟨hP, hD⟩ := va_join (wr := [(h1, .inr (5, [.ref h1_0, .int v1_size])), (h1_0, .inl (c1_0, 300, .inl g1_values))]) (w1 := [(h0, .inr (6, [.ref h0_0, .ref h0_1, .int v40, .int u54.2.1, .int v42, .int v43, .int v44])), (h0_0, .inr (1, [.int v0_0_base, .int v0_0_range, .int v0_0_low, .int v0_0_start, .int v0_0_step])), (h0_1, .inr (0, [.ref h0_1_0, .int u54.2.2.1])), (h0_1_0, .inl (c0_1_0, 600, .inl u54.2.2.2))]) hP hD [0, 1, 2, 3] [4, 5] rfl rfl (by decide) (by decide) hk1 hFc hP1 hD1
            generalize H1 = H at hP hS hce ⊢
            have hP : va_P (dC, dI) zC [(h1, .inr (5, [.ref h1_0, .int v1_size])), (h1_0, .inl (c1_0, 300, .inl g1_values)), (h0, .inr (6, [.ref h0_0, .ref h0_1, .int v40, .int u54.2.1, .int v42, .int v43, .int v44])), (h0_0, .inr (1, [.int v0_0_base, .int v0_0_range, .int v0_0_low, .int v0_0_start, .int v0_0_step])), (h0_1, .inr (0, [.ref h0_1_0, .int u54.2.2.1])), (h0_1_0, .inl (c0_1_0, 600, .inl u54.2.2.2))] H := hP
            have hD : va_D A [(h1, .inr (5, [.ref h1_0, .int v1_size])), (h1_0, .inl (c1_0, 300, .inl g1_values)), (h0, .inr (6, [.ref h0_0, .ref h0_1, .int v40, .int u54.2.1, .int v42, .int v43, .int v44])), (h0_0, .inr (1, [.int v0_0_base, .int v0_0_range, .int v0_0_low, .int v0_0_start, .int v0_0_step])), (h0_1, .inr (0, [.ref h0_1_0, .int u54.2.2.1])), (h0_1_0, .inl (c0_1_0, 600, .inl u54.2.2.2))] := hD
            have hP9 := hP.sub (ws' := [(h0, .inr (6, [.ref h0_0, .ref h0_1, .int v40, .int u54.2.1, .int v42, .int v43, .int v44])), (h0_0, .inr (1, [.int v0_0_base, .int v0_0_range, .int v0_0_low, .int v0_0_start, .int v0_0_step])), (h0_1, .inr (0, [.ref h0_1_0, .int u54.2.2.1])), (h0_1_0, .inl (c0_1_0, 600, .inl u54.2.2.2)), (h1, .inr (5, [.ref h1_0, .int v1_size])), (h1_0, .inl (c1_0, 300, .inl g1_values))]) [2, 3, 4, 5, 0, 1] rfl
            have hD9 := hD.sub (ws' := [(h0, .inr (6, [.ref h0_0, .ref h0_1, .int v40, .int u54.2.1, .int v42, .int v43, .int v44])), (h0_0, .inr (1, [.int v0_0_base, .int v0_0_range, .int v0_0_low, .int v0_0_start, .int v0_0_step])), (h0_1, .inr (0, [.ref h0_1_0, .int u54.2.2.1])), (h0_1_0, .inl (c0_1_0, 600, .inl u54.2.2.2)), (h1, .inr (5, [.ref h1_0, .int v1_size])), (h1_0, .inl (c1_0, 300, .inl g1_values))]) [2, 3, 4, 5, 0, 1] (by decide) rfl
            have hK9 := hK.sub (tys' := [(c0_1_0, .int), (c1_0, .int)]) [0, 1] rfl
            exact tw_out (E := E9) (fun x hx => (hEx x hx).elim) hlocks hce hcv hcl (fun t ht ha => ⟨(u54.1, (v40, u54.2.1, v42, v43, v44, u54.2.2.1, u54.2.2.2)), hw, ⟨hE, by rw [ht]; exact hP9, va_K.moved ha hK9, hD9⟩, hS.F ht⟩) hS.2.2 (Nat.le_of_ble_eq_true rfl) (Nat.le_of_ble_eq_true rfl)
          · skip
            obtain ⟨hP1, hK1, hD1⟩ := hB
            rw [ht] at hP1
            have hK1 := va_K.moved hvm.symm hK1
            obtain ⟨hP, hD⟩ := va_join (wr := [(h1, .inr (5, [.ref h1_0, .int v1_size])), (h1_0, .inl (c1_0, 300, .inl g1_values))]) (w1 := [(h0, .inr (6, [.ref h0_0, .ref h0_1, .int v40, .int u54.1, .int v42, .int v43, .int v44])), (h0_0, .inr (1, [.int v0_0_base, .int v0_0_range, .int v0_0_low, .int v0_0_start, .int v0_0_step])), (h0_1, .inr (0, [.ref h0_1_0, .int u54.2.1])), (h0_1_0, .inl (c0_1_0, 600, .inl u54.2.2))]) hP hD [0, 1, 2, 3] [4, 5] rfl rfl (by decide) (by decide) hk1 hFc hP1 hD1
            generalize H1 = H at hP hS ⊢
            have hP : va_P (dC, dI) zC [(h1, .inr (5, [.ref h1_0, .int v1_size])), (h1_0, .inl (c1_0, 300, .inl g1_values)), (h0, .inr (6, [.ref h0_0, .ref h0_1, .int v40, .int u54.1, .int v42, .int v43, .int v44])), (h0_0, .inr (1, [.int v0_0_base, .int v0_0_range, .int v0_0_low, .int v0_0_start, .int v0_0_step])), (h0_1, .inr (0, [.ref h0_1_0, .int u54.2.1])), (h0_1_0, .inl (c0_1_0, 600, .inl u54.2.2))] H := hP
            have hD : va_D A [(h1, .inr (5, [.ref h1_0, .int v1_size])), (h1_0, .inl (c1_0, 300, .inl g1_values)), (h0, .inr (6, [.ref h0_0, .ref h0_1, .int v40, .int u54.1, .int v42, .int v43, .int v44])), (h0_0, .inr (1, [.int v0_0_base, .int v0_0_range, .int v0_0_low, .int v0_0_start, .int v0_0_step])), (h0_1, .inr (0, [.ref h0_1_0, .int u54.2.1])), (h0_1_0, .inl (c0_1_0, 600, .inl u54.2.2))] := hD
            refine W.widen (k := 0) (n := 0) (Nat.le_of_ble_eq_true rfl) (Nat.le_of_ble_eq_true rfl) ?_
            refine lv_aload_n hx hb zd_Wr_writeAll_30 rfl (lv_at hl 1 rfl) ?_
            refine lv_aload_n hx hb zd_Wr_writeAll_31 rfl (lv_at hl 2 rfl) ?_
            refine lv_iload_n hx hb zd_Wr_writeAll_32 rfl (lv_at hl 0 rfl) ?_
            refine lv_iconst (v := 3) hx hb zd_Wr_writeAll_33 (by decide) ?_
            have hPc := hP.sub (ws' := [(h1, .inr (5, [.ref h1_0, .int v1_size])), (h1_0, .inl (c1_0, 300, .inl g1_values))]) [0, 1] rfl
            have hDc := hD.sub (ws' := [(h1, .inr (5, [.ref h1_0, .int v1_size])), (h1_0, .inl (c1_0, 300, .inl g1_values))]) [0, 1] (by decide) rfl
            have hKc := hK.sub (tys' := [(c1_0, .int)]) [1] rfl
            have hFc := va_free (wc := [(h1, .inr (5, [.ref h1_0, .int v1_size])), (h1_0, .inl (c1_0, 300, .inl g1_values))]) hD hS hA [0, 1] rfl
            refine va_calli (va_runV (As := [.int v46, .int 3]) (rest := [.ref h0]) ⟨hx, hb, hml, hown, htb⟩ (mt_Ta_get l dC dI h1 h1_0 H.size c1_0 v1_size g1_values v46 3 _ hw) (cwV 2 htb (zgV zw_560 zw_506 zw_507 zw_5 zw_508) rfl rfl rfl (by decide +kernel) ⟨(Nat.le_of_ble_eq_true rfl), (Nat.le_of_ble_eq_true rfl)⟩) ⟨zP_blind, va_recv (ci := 5) (q0 := 0) hK hP rfl rfl, zP_pre hPc hKc hDc⟩ rfl rfl hl.1 rfl (lv_room (Nat.le_of_ble_eq_true rfl)) zd_Wr_writeAll_34 ⟨(Nat.le_of_ble_eq_true rfl), (Nat.le_of_ble_eq_true rfl)⟩) hS (fun q _ h => hFc q h) hFc (fun x58 u57 t H1 locs ht hvm hw hB hz1 hk1 hS => ?_)
            obtain ⟨hP1, hK1, hD1⟩ := hB
            rw [ht] at hP1
            have hK1 := va_K.moved hvm.symm hK1
            obtain ⟨hP, hD⟩ := va_join (wr := [(h0, .inr (6, [.ref h0_0, .ref h0_1, .int v40, .int u54.1, .int v42, .int v43, .int v44])), (h0_0, .inr (1, [.int v0_0_base, .int v0_0_range, .int v0_0_low, .int v0_0_start, .int v0_0_step])), (h0_1, .inr (0, [.ref h0_1_0, .int u54.2.1])), (h0_1_0, .inl (c0_1_0, 600, .inl u54.2.2))]) (w1 := [(h1, .inr (5, [.ref h1_0, .int v1_size])), (h1_0, .inl (c1_0, 300, .inl g1_values))]) hP hD [0, 1] [2, 3, 4, 5] rfl rfl (by decide) (by decide) hk1 hFc hP1 hD1
            generalize H1 = H at hP hS ⊢
            have hP : va_P (dC, dI) zC [(h0, .inr (6, [.ref h0_0, .ref h0_1, .int v40, .int u54.1, .int v42, .int v43, .int v44])), (h0_0, .inr (1, [.int v0_0_base, .int v0_0_range, .int v0_0_low, .int v0_0_start, .int v0_0_step])), (h0_1, .inr (0, [.ref h0_1_0, .int u54.2.1])), (h0_1_0, .inl (c0_1_0, 600, .inl u54.2.2)), (h1, .inr (5, [.ref h1_0, .int v1_size])), (h1_0, .inl (c1_0, 300, .inl g1_values))] H := hP
            have hD : va_D A [(h0, .inr (6, [.ref h0_0, .ref h0_1, .int v40, .int u54.1, .int v42, .int v43, .int v44])), (h0_0, .inr (1, [.int v0_0_base, .int v0_0_range, .int v0_0_low, .int v0_0_start, .int v0_0_step])), (h0_1, .inr (0, [.ref h0_1_0, .int u54.2.1])), (h0_1_0, .inl (c0_1_0, 600, .inl u54.2.2)), (h1, .inr (5, [.ref h1_0, .int v1_size])), (h1_0, .inl (c1_0, 300, .inl g1_values))] := hD
            refine W.widen (k := 0) (n := 0) (Nat.le_of_ble_eq_true rfl) (Nat.le_of_ble_eq_true rfl) ?_
            have hPc := hP.sub (ws' := [(h0, .inr (6, [.ref h0_0, .ref h0_1, .int v40, .int u54.1, .int v42, .int v43, .int v44])), (h0_0, .inr (1, [.int v0_0_base, .int v0_0_range, .int v0_0_low, .int v0_0_start, .int v0_0_step])), (h0_1, .inr (0, [.ref h0_1_0, .int u54.2.1])), (h0_1_0, .inl (c0_1_0, 600, .inl u54.2.2))]) [0, 1, 2, 3] rfl
            have hDc := hD.sub (ws' := [(h0, .inr (6, [.ref h0_0, .ref h0_1, .int v40, .int u54.1, .int v42, .int v43, .int v44])), (h0_0, .inr (1, [.int v0_0_base, .int v0_0_range, .int v0_0_low, .int v0_0_start, .int v0_0_step])), (h0_1, .inr (0, [.ref h0_1_0, .int u54.2.1])), (h0_1_0, .inl (c0_1_0, 600, .inl u54.2.2))]) [0, 1, 2, 3] (by decide) rfl
            have hKc := hK.sub (tys' := [(c0_1_0, .int)]) [0] rfl
            have hFc := va_free (wc := [(h0, .inr (6, [.ref h0_0, .ref h0_1, .int v40, .int u54.1, .int v42, .int v43, .int v44])), (h0_0, .inr (1, [.int v0_0_base, .int v0_0_range, .int v0_0_low, .int v0_0_start, .int v0_0_step])), (h0_1, .inr (0, [.ref h0_1_0, .int u54.2.1])), (h0_1_0, .inl (c0_1_0, 600, .inl u54.2.2))]) hD hS hA [0, 1, 2, 3] rfl
            refine tw_callv (tw_runV (As := [.int x58]) (rest := []) ⟨hx, hb, hml, hown, htb⟩ (mt_Wr_writeColumn l hl9 dC dI sa h0 h0_0 h0_1 h0_1_0 H.size c0_1_0 v40 u54.1 v42 v43 v44 v0_0_base v0_0_range v0_0_low v0_0_start v0_0_step u54.2.1 u54.2.2 x58 _ _ hw) (cwV 1 htb (zgV zw_574 zw_576 zp_Wr_writeColumn zw_18 zw_577) rfl rfl rfl (by decide +kernel) ⟨(Nat.le_of_ble_eq_true rfl), (Nat.le_of_ble_eq_true rfl)⟩) ⟨zPx_blind, va_recv (ci := 6) (q0 := 0) hK hP rfl rfl, zPx_pre hZ hS hFc hPc hKc hDc⟩ rfl rfl hl.1 rfl (lv_room (Nat.le_of_ble_eq_true rfl)) zd_Wr_writeAll_37 ⟨(Nat.le_of_ble_eq_true rfl), (Nat.le_of_ble_eq_true rfl)⟩) hS (fun q _ h => hFc q h) hFc (fun q _ h => hFc q h) (fun E9 ce9 q9 u60 t H1 locs ht hvm hw hB hz1 hk1 hS hce hcv hcl => ?_) (fun u60 t H1 locs ht hvm hw hB hz1 hk1 hS => ?_)
            · obtain ⟨hE, hB⟩ := hB
              obtain ⟨hP1, hK1, hD1⟩ := hB
              rw [ht] at hP1
              have hK1 := va_K.moved hvm.symm hK1
              obtain ⟨hP, hD⟩ := va_join (wr := [(h1, .inr (5, [.ref h1_0, .int v1_size])), (h1_0, .inl (c1_0, 300, .inl g1_values))]) (w1 := [(h0, .inr (6, [.ref h0_0, .ref h0_1, .int v40, .int u54.1, .int v42, .int u60.2.1, .int v44])), (h0_0, .inr (1, [.int v0_0_base, .int v0_0_range, .int v0_0_low, .int v0_0_start, .int v0_0_step])), (h0_1, .inr (0, [.ref h0_1_0, .int u60.2.2.1])), (h0_1_0, .inl (c0_1_0, 600, .inl u60.2.2.2))]) hP hD [0, 1, 2, 3] [4, 5] rfl rfl (by decide) (by decide) hk1 hFc hP1 hD1
              generalize H1 = H at hP hS hce ⊢
              have hP : va_P (dC, dI) zC [(h1, .inr (5, [.ref h1_0, .int v1_size])), (h1_0, .inl (c1_0, 300, .inl g1_values)), (h0, .inr (6, [.ref h0_0, .ref h0_1, .int v40, .int u54.1, .int v42, .int u60.2.1, .int v44])), (h0_0, .inr (1, [.int v0_0_base, .int v0_0_range, .int v0_0_low, .int v0_0_start, .int v0_0_step])), (h0_1, .inr (0, [.ref h0_1_0, .int u60.2.2.1])), (h0_1_0, .inl (c0_1_0, 600, .inl u60.2.2.2))] H := hP
              have hD : va_D A [(h1, .inr (5, [.ref h1_0, .int v1_size])), (h1_0, .inl (c1_0, 300, .inl g1_values)), (h0, .inr (6, [.ref h0_0, .ref h0_1, .int v40, .int u54.1, .int v42, .int u60.2.1, .int v44])), (h0_0, .inr (1, [.int v0_0_base, .int v0_0_range, .int v0_0_low, .int v0_0_start, .int v0_0_step])), (h0_1, .inr (0, [.ref h0_1_0, .int u60.2.2.1])), (h0_1_0, .inl (c0_1_0, 600, .inl u60.2.2.2))] := hD
              have hP9 := hP.sub (ws' := [(h0, .inr (6, [.ref h0_0, .ref h0_1, .int v40, .int u54.1, .int v42, .int u60.2.1, .int v44])), (h0_0, .inr (1, [.int v0_0_base, .int v0_0_range, .int v0_0_low, .int v0_0_start, .int v0_0_step])), (h0_1, .inr (0, [.ref h0_1_0, .int u60.2.2.1])), (h0_1_0, .inl (c0_1_0, 600, .inl u60.2.2.2)), (h1, .inr (5, [.ref h1_0, .int v1_size])), (h1_0, .inl (c1_0, 300, .inl g1_values))]) [2, 3, 4, 5, 0, 1] rfl
              have hD9 := hD.sub (ws' := [(h0, .inr (6, [.ref h0_0, .ref h0_1, .int v40, .int u54.1, .int v42, .int u60.2.1, .int v44])), (h0_0, .inr (1, [.int v0_0_base, .int v0_0_range, .int v0_0_low, .int v0_0_start, .int v0_0_step])), (h0_1, .inr (0, [.ref h0_1_0, .int u60.2.2.1])), (h0_1_0, .inl (c0_1_0, 600, .inl u60.2.2.2)), (h1, .inr (5, [.ref h1_0, .int v1_size])), (h1_0, .inl (c1_0, 300, .inl g1_values))]) [2, 3, 4, 5, 0, 1] (by decide) rfl
              have hK9 := hK.sub (tys' := [(c0_1_0, .int), (c1_0, .int)]) [0, 1] rfl
              exact tw_out (E := E9) (fun x hx => (hEx x hx).elim) hlocks hce hcv hcl (fun t ht ha => ⟨(u60.1, (v40, u54.1, v42, u60.2.1, v44, u60.2.2.1, u60.2.2.2)), hw, ⟨hE, by rw [ht]; exact hP9, va_K.moved ha hK9, hD9⟩, hS.F ht⟩) hS.2.2 (Nat.le_of_ble_eq_true rfl) (Nat.le_of_ble_eq_true rfl)
            · skip
              obtain ⟨hP1, hK1, hD1⟩ := hB
              rw [ht] at hP1
              have hK1 := va_K.moved hvm.symm hK1
              obtain ⟨hP, hD⟩ := va_join (wr := [(h1, .inr (5, [.ref h1_0, .int v1_size])), (h1_0, .inl (c1_0, 300, .inl g1_values))]) (w1 := [(h0, .inr (6, [.ref h0_0, .ref h0_1, .int v40, .int u54.1, .int v42, .int u60.1, .int v44])), (h0_0, .inr (1, [.int v0_0_base, .int v0_0_range, .int v0_0_low, .int v0_0_start, .int v0_0_step])), (h0_1, .inr (0, [.ref h0_1_0, .int u60.2.1])), (h0_1_0, .inl (c0_1_0, 600, .inl u60.2.2))]) hP hD [0, 1, 2, 3] [4, 5] rfl rfl (by decide) (by decide) hk1 hFc hP1 hD1
              generalize H1 = H at hP hS ⊢
              have hP : va_P (dC, dI) zC [(h1, .inr (5, [.ref h1_0, .int v1_size])), (h1_0, .inl (c1_0, 300, .inl g1_values)), (h0, .inr (6, [.ref h0_0, .ref h0_1, .int v40, .int u54.1, .int v42, .int u60.1, .int v44])), (h0_0, .inr (1, [.int v0_0_base, .int v0_0_range, .int v0_0_low, .int v0_0_start, .int v0_0_step])), (h0_1, .inr (0, [.ref h0_1_0, .int u60.2.1])), (h0_1_0, .inl (c0_1_0, 600, .inl u60.2.2))] H := hP
              have hD : va_D A [(h1, .inr (5, [.ref h1_0, .int v1_size])), (h1_0, .inl (c1_0, 300, .inl g1_values)), (h0, .inr (6, [.ref h0_0, .ref h0_1, .int v40, .int u54.1, .int v42, .int u60.1, .int v44])), (h0_0, .inr (1, [.int v0_0_base, .int v0_0_range, .int v0_0_low, .int v0_0_start, .int v0_0_step])), (h0_1, .inr (0, [.ref h0_1_0, .int u60.2.1])), (h0_1_0, .inl (c0_1_0, 600, .inl u60.2.2))] := hD
              refine W.widen (k := 0) (n := 0) (Nat.le_of_ble_eq_true rfl) (Nat.le_of_ble_eq_true rfl) ?_
              refine lv_aload_n hx hb zd_Wr_writeAll_40 rfl (lv_at hl 1 rfl) ?_
              refine lv_aload_n hx hb zd_Wr_writeAll_41 rfl (lv_at hl 2 rfl) ?_
              refine lv_iload_n hx hb zd_Wr_writeAll_42 rfl (lv_at hl 0 rfl) ?_
              refine lv_iconst (v := 4) hx hb zd_Wr_writeAll_43 (by decide) ?_
              have hPc := hP.sub (ws' := [(h1, .inr (5, [.ref h1_0, .int v1_size])), (h1_0, .inl (c1_0, 300, .inl g1_values))]) [0, 1] rfl
              have hDc := hD.sub (ws' := [(h1, .inr (5, [.ref h1_0, .int v1_size])), (h1_0, .inl (c1_0, 300, .inl g1_values))]) [0, 1] (by decide) rfl
              have hKc := hK.sub (tys' := [(c1_0, .int)]) [1] rfl
              have hFc := va_free (wc := [(h1, .inr (5, [.ref h1_0, .int v1_size])), (h1_0, .inl (c1_0, 300, .inl g1_values))]) hD hS hA [0, 1] rfl
              refine va_calli (va_runV (As := [.int v46, .int 4]) (rest := [.ref h0]) ⟨hx, hb, hml, hown, htb⟩ (mt_Ta_get l dC dI h1 h1_0 H.size c1_0 v1_size g1_values v46 4 _ hw) (cwV 2 htb (zgV zw_560 zw_506 zw_507 zw_5 zw_508) rfl rfl rfl (by decide +kernel) ⟨(Nat.le_of_ble_eq_true rfl), (Nat.le_of_ble_eq_true rfl)⟩) ⟨zP_blind, va_recv (ci := 5) (q0 := 0) hK hP rfl rfl, zP_pre hPc hKc hDc⟩ rfl rfl hl.1 rfl (lv_room (Nat.le_of_ble_eq_true rfl)) zd_Wr_writeAll_44 ⟨(Nat.le_of_ble_eq_true rfl), (Nat.le_of_ble_eq_true rfl)⟩) hS (fun q _ h => hFc q h) hFc (fun x64 u63 t H1 locs ht hvm hw hB hz1 hk1 hS => ?_)
              obtain ⟨hP1, hK1, hD1⟩ := hB
              rw [ht] at hP1
              have hK1 := va_K.moved hvm.symm hK1
              obtain ⟨hP, hD⟩ := va_join (wr := [(h0, .inr (6, [.ref h0_0, .ref h0_1, .int v40, .int u54.1, .int v42, .int u60.1, .int v44])), (h0_0, .inr (1, [.int v0_0_base, .int v0_0_range, .int v0_0_low, .int v0_0_start, .int v0_0_step])), (h0_1, .inr (0, [.ref h0_1_0, .int u60.2.1])), (h0_1_0, .inl (c0_1_0, 600, .inl u60.2.2))]) (w1 := [(h1, .inr (5, [.ref h1_0, .int v1_size])), (h1_0, .inl (c1_0, 300, .inl g1_values))]) hP hD [0, 1] [2, 3, 4, 5] rfl rfl (by decide) (by decide) hk1 hFc hP1 hD1
              generalize H1 = H at hP hS ⊢
              have hP : va_P (dC, dI) zC [(h0, .inr (6, [.ref h0_0, .ref h0_1, .int v40, .int u54.1, .int v42, .int u60.1, .int v44])), (h0_0, .inr (1, [.int v0_0_base, .int v0_0_range, .int v0_0_low, .int v0_0_start, .int v0_0_step])), (h0_1, .inr (0, [.ref h0_1_0, .int u60.2.1])), (h0_1_0, .inl (c0_1_0, 600, .inl u60.2.2)), (h1, .inr (5, [.ref h1_0, .int v1_size])), (h1_0, .inl (c1_0, 300, .inl g1_values))] H := hP
              have hD : va_D A [(h0, .inr (6, [.ref h0_0, .ref h0_1, .int v40, .int u54.1, .int v42, .int u60.1, .int v44])), (h0_0, .inr (1, [.int v0_0_base, .int v0_0_range, .int v0_0_low, .int v0_0_start, .int v0_0_step])), (h0_1, .inr (0, [.ref h0_1_0, .int u60.2.1])), (h0_1_0, .inl (c0_1_0, 600, .inl u60.2.2)), (h1, .inr (5, [.ref h1_0, .int v1_size])), (h1_0, .inl (c1_0, 300, .inl g1_values))] := hD
              refine W.widen (k := 0) (n := 0) (Nat.le_of_ble_eq_true rfl) (Nat.le_of_ble_eq_true rfl) ?_
              have hPc := hP.sub (ws' := [(h0, .inr (6, [.ref h0_0, .ref h0_1, .int v40, .int u54.1, .int v42, .int u60.1, .int v44])), (h0_0, .inr (1, [.int v0_0_base, .int v0_0_range, .int v0_0_low, .int v0_0_start, .int v0_0_step])), (h0_1, .inr (0, [.ref h0_1_0, .int u60.2.1])), (h0_1_0, .inl (c0_1_0, 600, .inl u60.2.2))]) [0, 1, 2, 3] rfl
              have hDc := hD.sub (ws' := [(h0, .inr (6, [.ref h0_0, .ref h0_1, .int v40, .int u54.1, .int v42, .int u60.1, .int v44])), (h0_0, .inr (1, [.int v0_0_base, .int v0_0_range, .int v0_0_low, .int v0_0_start, .int v0_0_step])), (h0_1, .inr (0, [.ref h0_1_0, .int u60.2.1])), (h0_1_0, .inl (c0_1_0, 600, .inl u60.2.2))]) [0, 1, 2, 3] (by decide) rfl
              have hKc := hK.sub (tys' := [(c0_1_0, .int)]) [0] rfl
              have hFc := va_free (wc := [(h0, .inr (6, [.ref h0_0, .ref h0_1, .int v40, .int u54.1, .int v42, .int u60.1, .int v44])), (h0_0, .inr (1, [.int v0_0_base, .int v0_0_range, .int v0_0_low, .int v0_0_start, .int v0_0_step])), (h0_1, .inr (0, [.ref h0_1_0, .int u60.2.1])), (h0_1_0, .inl (c0_1_0, 600, .inl u60.2.2))]) hD hS hA [0, 1, 2, 3] rfl
              refine tw_callv (tw_runV (As := [.int x64]) (rest := []) ⟨hx, hb, hml, hown, htb⟩ (mt_Wr_writeStatement l hl9 dC dI sa h0 h0_0 h0_1 h0_1_0 H.size c0_1_0 v40 u54.1 v42 u60.1 v44 v0_0_base v0_0_range v0_0_low v0_0_start v0_0_step u60.2.1 u60.2.2 x64 _ _ hw) (cwV 1 htb (zgV zw_578 zw_580 zp_Wr_writeStatement zw_18 zw_581) rfl rfl rfl (by decide +kernel) ⟨(Nat.le_of_ble_eq_true rfl), (Nat.le_of_ble_eq_true rfl)⟩) ⟨zPx_blind, va_recv (ci := 6) (q0 := 0) hK hP rfl rfl, zPx_pre hZ hS hFc hPc hKc hDc⟩ rfl rfl hl.1 rfl (lv_room (Nat.le_of_ble_eq_true rfl)) zd_Wr_writeAll_47 ⟨(Nat.le_of_ble_eq_true rfl), (Nat.le_of_ble_eq_true rfl)⟩) hS (fun q _ h => hFc q h) hFc (fun q _ h => hFc q h) (fun E9 ce9 q9 u66 t H1 locs ht hvm hw hB hz1 hk1 hS hce hcv hcl => ?_) (fun u66 t H1 locs ht hvm hw hB hz1 hk1 hS => ?_)
              · obtain ⟨hE, hB⟩ := hB
                obtain ⟨hP1, hK1, hD1⟩ := hB
                rw [ht] at hP1
                have hK1 := va_K.moved hvm.symm hK1
                obtain ⟨hP, hD⟩ := va_join (wr := [(h1, .inr (5, [.ref h1_0, .int v1_size])), (h1_0, .inl (c1_0, 300, .inl g1_values))]) (w1 := [(h0, .inr (6, [.ref h0_0, .ref h0_1, .int v40, .int u54.1, .int v42, .int u60.1, .int u66.2.1])), (h0_0, .inr (1, [.int v0_0_base, .int v0_0_range, .int v0_0_low, .int v0_0_start, .int v0_0_step])), (h0_1, .inr (0, [.ref h0_1_0, .int u66.2.2.1])), (h0_1_0, .inl (c0_1_0, 600, .inl u66.2.2.2))]) hP hD [0, 1, 2, 3] [4, 5] rfl rfl (by decide) (by decide) hk1 hFc hP1 hD1
                generalize H1 = H at hP hS hce ⊢
                have hP : va_P (dC, dI) zC [(h1, .inr (5, [.ref h1_0, .int v1_size])), (h1_0, .inl (c1_0, 300, .inl g1_values)), (h0, .inr (6, [.ref h0_0, .ref h0_1, .int v40, .int u54.1, .int v42, .int u60.1, .int u66.2.1])), (h0_0, .inr (1, [.int v0_0_base, .int v0_0_range, .int v0_0_low, .int v0_0_start, .int v0_0_step])), (h0_1, .inr (0, [.ref h0_1_0, .int u66.2.2.1])), (h0_1_0, .inl (c0_1_0, 600, .inl u66.2.2.2))] H := hP
                have hD : va_D A [(h1, .inr (5, [.ref h1_0, .int v1_size])), (h1_0, .inl (c1_0, 300, .inl g1_values)), (h0, .inr (6, [.ref h0_0, .ref h0_1, .int v40, .int u54.1, .int v42, .int u60.1, .int u66.2.1])), (h0_0, .inr (1, [.int v0_0_base, .int v0_0_range, .int v0_0_low, .int v0_0_start, .int v0_0_step])), (h0_1, .inr (0, [.ref h0_1_0, .int u66.2.2.1])), (h0_1_0, .inl (c0_1_0, 600, .inl u66.2.2.2))] := hD
                have hP9 := hP.sub (ws' := [(h0, .inr (6, [.ref h0_0, .ref h0_1, .int v40, .int u54.1, .int v42, .int u60.1, .int u66.2.1])), (h0_0, .inr (1, [.int v0_0_base, .int v0_0_range, .int v0_0_low, .int v0_0_start, .int v0_0_step])), (h0_1, .inr (0, [.ref h0_1_0, .int u66.2.2.1])), (h0_1_0, .inl (c0_1_0, 600, .inl u66.2.2.2)), (h1, .inr (5, [.ref h1_0, .int v1_size])), (h1_0, .inl (c1_0, 300, .inl g1_values))]) [2, 3, 4, 5, 0, 1] rfl
                have hD9 := hD.sub (ws' := [(h0, .inr (6, [.ref h0_0, .ref h0_1, .int v40, .int u54.1, .int v42, .int u60.1, .int u66.2.1])), (h0_0, .inr (1, [.int v0_0_base, .int v0_0_range, .int v0_0_low, .int v0_0_start, .int v0_0_step])), (h0_1, .inr (0, [.ref h0_1_0, .int u66.2.2.1])), (h0_1_0, .inl (c0_1_0, 600, .inl u66.2.2.2)), (h1, .inr (5, [.ref h1_0, .int v1_size])), (h1_0, .inl (c1_0, 300, .inl g1_values))]) [2, 3, 4, 5, 0, 1] (by decide) rfl
                have hK9 := hK.sub (tys' := [(c0_1_0, .int), (c1_0, .int)]) [0, 1] rfl
                exact tw_out (E := E9) (fun x hx => (hEx x hx).elim) hlocks hce hcv hcl (fun t ht ha => ⟨(u66.1, (v40, u54.1, v42, u60.1, u66.2.1, u66.2.2.1, u66.2.2.2)), hw, ⟨hE, by rw [ht]; exact hP9, va_K.moved ha hK9, hD9⟩, hS.F ht⟩) hS.2.2 (Nat.le_of_ble_eq_true rfl) (Nat.le_of_ble_eq_true rfl)
              · skip
                obtain ⟨hP1, hK1, hD1⟩ := hB
                rw [ht] at hP1
                have hK1 := va_K.moved hvm.symm hK1
                obtain ⟨hP, hD⟩ := va_join (wr := [(h1, .inr (5, [.ref h1_0, .int v1_size])), (h1_0, .inl (c1_0, 300, .inl g1_values))]) (w1 := [(h0, .inr (6, [.ref h0_0, .ref h0_1, .int v40, .int u54.1, .int v42, .int u60.1, .int u66.1])), (h0_0, .inr (1, [.int v0_0_base, .int v0_0_range, .int v0_0_low, .int v0_0_start, .int v0_0_step])), (h0_1, .inr (0, [.ref h0_1_0, .int u66.2.1])), (h0_1_0, .inl (c0_1_0, 600, .inl u66.2.2))]) hP hD [0, 1, 2, 3] [4, 5] rfl rfl (by decide) (by decide) hk1 hFc hP1 hD1
                generalize H1 = H at hP hS ⊢
                have hP : va_P (dC, dI) zC [(h1, .inr (5, [.ref h1_0, .int v1_size])), (h1_0, .inl (c1_0, 300, .inl g1_values)), (h0, .inr (6, [.ref h0_0, .ref h0_1, .int v40, .int u54.1, .int v42, .int u60.1, .int u66.1])), (h0_0, .inr (1, [.int v0_0_base, .int v0_0_range, .int v0_0_low, .int v0_0_start, .int v0_0_step])), (h0_1, .inr (0, [.ref h0_1_0, .int u66.2.1])), (h0_1_0, .inl (c0_1_0, 600, .inl u66.2.2))] H := hP
                have hD : va_D A [(h1, .inr (5, [.ref h1_0, .int v1_size])), (h1_0, .inl (c1_0, 300, .inl g1_values)), (h0, .inr (6, [.ref h0_0, .ref h0_1, .int v40, .int u54.1, .int v42, .int u60.1, .int u66.1])), (h0_0, .inr (1, [.int v0_0_base, .int v0_0_range, .int v0_0_low, .int v0_0_start, .int v0_0_step])), (h0_1, .inr (0, [.ref h0_1_0, .int u66.2.1])), (h0_1_0, .inl (c0_1_0, 600, .inl u66.2.2))] := hD
                refine W.widen (k := 0) (n := 0) (Nat.le_of_ble_eq_true rfl) (Nat.le_of_ble_eq_true rfl) ?_
                refine lv_aload_n hx hb zd_Wr_writeAll_50 rfl (lv_at hl 1 rfl) ?_
                refine lv_aload_n hx hb zd_Wr_writeAll_51 rfl (lv_at hl 2 rfl) ?_
                refine lv_iload_n hx hb zd_Wr_writeAll_52 rfl (lv_at hl 0 rfl) ?_
                refine lv_iconst (v := 0) hx hb zd_Wr_writeAll_53 (by decide) ?_
                have hPc := hP.sub (ws' := [(h1, .inr (5, [.ref h1_0, .int v1_size])), (h1_0, .inl (c1_0, 300, .inl g1_values))]) [0, 1] rfl
                have hDc := hD.sub (ws' := [(h1, .inr (5, [.ref h1_0, .int v1_size])), (h1_0, .inl (c1_0, 300, .inl g1_values))]) [0, 1] (by decide) rfl
                have hKc := hK.sub (tys' := [(c1_0, .int)]) [1] rfl
                have hFc := va_free (wc := [(h1, .inr (5, [.ref h1_0, .int v1_size])), (h1_0, .inl (c1_0, 300, .inl g1_values))]) hD hS hA [0, 1] rfl
                refine va_calli (va_runV (As := [.int v46, .int 0]) (rest := [.ref h0]) ⟨hx, hb, hml, hown, htb⟩ (mt_Ta_get l dC dI h1 h1_0 H.size c1_0 v1_size g1_values v46 0 _ hw) (cwV 2 htb (zgV zw_560 zw_506 zw_507 zw_5 zw_508) rfl rfl rfl (by decide +kernel) ⟨(Nat.le_of_ble_eq_true rfl), (Nat.le_of_ble_eq_true rfl)⟩) ⟨zP_blind, va_recv (ci := 5) (q0 := 0) hK hP rfl rfl, zP_pre hPc hKc hDc⟩ rfl rfl hl.1 rfl (lv_room (Nat.le_of_ble_eq_true rfl)) zd_Wr_writeAll_54 ⟨(Nat.le_of_ble_eq_true rfl), (Nat.le_of_ble_eq_true rfl)⟩) hS (fun q _ h => hFc q h) hFc (fun x70 u69 t H1 locs ht hvm hw hB hz1 hk1 hS => ?_)
                obtain ⟨hP1, hK1, hD1⟩ := hB
                rw [ht] at hP1
                have hK1 := va_K.moved hvm.symm hK1
                obtain ⟨hP, hD⟩ := va_join (wr := [(h0, .inr (6, [.ref h0_0, .ref h0_1, .int v40, .int u54.1, .int v42, .int u60.1, .int u66.1])), (h0_0, .inr (1, [.int v0_0_base, .int v0_0_range, .int v0_0_low, .int v0_0_start, .int v0_0_step])), (h0_1, .inr (0, [.ref h0_1_0, .int u66.2.1])), (h0_1_0, .inl (c0_1_0, 600, .inl u66.2.2))]) (w1 := [(h1, .inr (5, [.ref h1_0, .int v1_size])), (h1_0, .inl (c1_0, 300, .inl g1_values))]) hP hD [0, 1] [2, 3, 4, 5] rfl rfl (by decide) (by decide) hk1 hFc hP1 hD1
                generalize H1 = H at hP hS ⊢
                have hP : va_P (dC, dI) zC [(h0, .inr (6, [.ref h0_0, .ref h0_1, .int v40, .int u54.1, .int v42, .int u60.1, .int u66.1])), (h0_0, .inr (1, [.int v0_0_base, .int v0_0_range, .int v0_0_low, .int v0_0_start, .int v0_0_step])), (h0_1, .inr (0, [.ref h0_1_0, .int u66.2.1])), (h0_1_0, .inl (c0_1_0, 600, .inl u66.2.2)), (h1, .inr (5, [.ref h1_0, .int v1_size])), (h1_0, .inl (c1_0, 300, .inl g1_values))] H := hP
                have hD : va_D A [(h0, .inr (6, [.ref h0_0, .ref h0_1, .int v40, .int u54.1, .int v42, .int u60.1, .int u66.1])), (h0_0, .inr (1, [.int v0_0_base, .int v0_0_range, .int v0_0_low, .int v0_0_start, .int v0_0_step])), (h0_1, .inr (0, [.ref h0_1_0, .int u66.2.1])), (h0_1_0, .inl (c0_1_0, 600, .inl u66.2.2)), (h1, .inr (5, [.ref h1_0, .int v1_size])), (h1_0, .inl (c1_0, 300, .inl g1_values))] := hD
                refine W.widen (k := 0) (n := 0) (Nat.le_of_ble_eq_true rfl) (Nat.le_of_ble_eq_true rfl) ?_
                refine lv_aload_n hx hb zd_Wr_writeAll_57 rfl (lv_at hl 2 rfl) ?_
                refine lv_iload_n hx hb zd_Wr_writeAll_58 rfl (lv_at hl 0 rfl) ?_
                refine lv_iconst (v := 2) hx hb zd_Wr_writeAll_59 (by decide) ?_
                have hPc := hP.sub (ws' := [(h1, .inr (5, [.ref h1_0, .int v1_size])), (h1_0, .inl (c1_0, 300, .inl g1_values))]) [4, 5] rfl
                have hDc := hD.sub (ws' := [(h1, .inr (5, [.ref h1_0, .int v1_size])), (h1_0, .inl (c1_0, 300, .inl g1_values))]) [4, 5] (by decide) rfl
                have hKc := hK.sub (tys' := [(c1_0, .int)]) [1] rfl
                have hFc := va_free (wc := [(h1, .inr (5, [.ref h1_0, .int v1_size])), (h1_0, .inl (c1_0, 300, .inl g1_values))]) hD hS hA [4, 5] rfl
                refine va_calli (va_runV (As := [.int v46, .int 2]) (rest := [.int x70, .ref h0]) ⟨hx, hb, hml, hown, htb⟩ (mt_Ta_get l dC dI h1 h1_0 H.size c1_0 v1_size g1_values v46 2 _ hw) (cwV 2 htb (zgV zw_560 zw_506 zw_507 zw_5 zw_508) rfl rfl rfl (by decide +kernel) ⟨(Nat.le_of_ble_eq_true rfl), (Nat.le_of_ble_eq_true rfl)⟩) ⟨zP_blind, va_recv (ci := 5) (q0 := 4) hK hP rfl rfl, zP_pre hPc hKc hDc⟩ rfl rfl hl.1 rfl (lv_room (Nat.le_of_ble_eq_true rfl)) zd_Wr_writeAll_60 ⟨(Nat.le_of_ble_eq_true rfl), (Nat.le_of_ble_eq_true rfl)⟩) hS (fun q _ h => hFc q h) hFc (fun x73 u72 t H1 locs ht hvm hw hB hz1 hk1 hS => ?_)
                obtain ⟨hP1, hK1, hD1⟩ := hB
                rw [ht] at hP1
                have hK1 := va_K.moved hvm.symm hK1
                obtain ⟨hP, hD⟩ := va_join (wr := [(h0, .inr (6, [.ref h0_0, .ref h0_1, .int v40, .int u54.1, .int v42, .int u60.1, .int u66.1])), (h0_0, .inr (1, [.int v0_0_base, .int v0_0_range, .int v0_0_low, .int v0_0_start, .int v0_0_step])), (h0_1, .inr (0, [.ref h0_1_0, .int u66.2.1])), (h0_1_0, .inl (c0_1_0, 600, .inl u66.2.2))]) (w1 := [(h1, .inr (5, [.ref h1_0, .int v1_size])), (h1_0, .inl (c1_0, 300, .inl g1_values))]) hP hD [4, 5] [0, 1, 2, 3] rfl rfl (by decide) (by decide) hk1 hFc hP1 hD1
                generalize H1 = H at hP hS ⊢
                have hP : va_P (dC, dI) zC [(h0, .inr (6, [.ref h0_0, .ref h0_1, .int v40, .int u54.1, .int v42, .int u60.1, .int u66.1])), (h0_0, .inr (1, [.int v0_0_base, .int v0_0_range, .int v0_0_low, .int v0_0_start, .int v0_0_step])), (h0_1, .inr (0, [.ref h0_1_0, .int u66.2.1])), (h0_1_0, .inl (c0_1_0, 600, .inl u66.2.2)), (h1, .inr (5, [.ref h1_0, .int v1_size])), (h1_0, .inl (c1_0, 300, .inl g1_values))] H := hP
                have hD : va_D A [(h0, .inr (6, [.ref h0_0, .ref h0_1, .int v40, .int u54.1, .int v42, .int u60.1, .int u66.1])), (h0_0, .inr (1, [.int v0_0_base, .int v0_0_range, .int v0_0_low, .int v0_0_start, .int v0_0_step])), (h0_1, .inr (0, [.ref h0_1_0, .int u66.2.1])), (h0_1_0, .inl (c0_1_0, 600, .inl u66.2.2)), (h1, .inr (5, [.ref h1_0, .int v1_size])), (h1_0, .inl (c1_0, 300, .inl g1_values))] := hD
                refine W.widen (k := 0) (n := 0) (Nat.le_of_ble_eq_true rfl) (Nat.le_of_ble_eq_true rfl) ?_
                have hPc := hP.sub (ws' := [(h0, .inr (6, [.ref h0_0, .ref h0_1, .int v40, .int u54.1, .int v42, .int u60.1, .int u66.1])), (h0_0, .inr (1, [.int v0_0_base, .int v0_0_range, .int v0_0_low, .int v0_0_start, .int v0_0_step])), (h0_1, .inr (0, [.ref h0_1_0, .int u66.2.1])), (h0_1_0, .inl (c0_1_0, 600, .inl u66.2.2))]) [0, 1, 2, 3] rfl
                have hDc := hD.sub (ws' := [(h0, .inr (6, [.ref h0_0, .ref h0_1, .int v40, .int u54.1, .int v42, .int u60.1, .int u66.1])), (h0_0, .inr (1, [.int v0_0_base, .int v0_0_range, .int v0_0_low, .int v0_0_start, .int v0_0_step])), (h0_1, .inr (0, [.ref h0_1_0, .int u66.2.1])), (h0_1_0, .inl (c0_1_0, 600, .inl u66.2.2))]) [0, 1, 2, 3] (by decide) rfl
                have hKc := hK.sub (tys' := [(c0_1_0, .int)]) [0] rfl
                have hFc := va_free (wc := [(h0, .inr (6, [.ref h0_0, .ref h0_1, .int v40, .int u54.1, .int v42, .int u60.1, .int u66.1])), (h0_0, .inr (1, [.int v0_0_base, .int v0_0_range, .int v0_0_low, .int v0_0_start, .int v0_0_step])), (h0_1, .inr (0, [.ref h0_1_0, .int u66.2.1])), (h0_1_0, .inl (c0_1_0, 600, .inl u66.2.2))]) hD hS hA [0, 1, 2, 3] rfl
                refine tw_callv (tw_runV (As := [.int x70, .int x73]) (rest := []) ⟨hx, hb, hml, hown, htb⟩ (mt_Wr_writeMove l hl9 dC dI sa h0 h0_0 h0_1 h0_1_0 H.size c0_1_0 v40 u54.1 v42 u60.1 u66.1 v0_0_base v0_0_range v0_0_low v0_0_start v0_0_step u66.2.1 u66.2.2 x70 x73 _ _ hw) (cwV 2 htb (zgV zw_582 zw_584 zp_Wr_writeMove zw_18 zw_585) rfl rfl rfl (by decide +kernel) ⟨(Nat.le_of_ble_eq_true rfl), (Nat.le_of_ble_eq_true rfl)⟩) ⟨zPx_blind, va_recv (ci := 6) (q0 := 0) hK hP rfl rfl, zPx_pre hZ hS hFc hPc hKc hDc⟩ rfl rfl hl.1 rfl (lv_room (Nat.le_of_ble_eq_true rfl)) zd_Wr_writeAll_63 ⟨(Nat.le_of_ble_eq_true rfl), (Nat.le_of_ble_eq_true rfl)⟩) hS (fun q _ h => hFc q h) hFc (fun q _ h => hFc q h) (fun E9 ce9 q9 u75 t H1 locs ht hvm hw hB hz1 hk1 hS hce hcv hcl => ?_) (fun u75 t H1 locs ht hvm hw hB hz1 hk1 hS => ?_)
                · obtain ⟨hE, hB⟩ := hB
                  obtain ⟨hP1, hK1, hD1⟩ := hB
                  rw [ht] at hP1
                  have hK1 := va_K.moved hvm.symm hK1
                  obtain ⟨hP, hD⟩ := va_join (wr := [(h1, .inr (5, [.ref h1_0, .int v1_size])), (h1_0, .inl (c1_0, 300, .inl g1_values))]) (w1 := [(h0, .inr (6, [.ref h0_0, .ref h0_1, .int u75.2.1, .int u54.1, .int u75.2.2.1, .int u60.1, .int u66.1])), (h0_0, .inr (1, [.int v0_0_base, .int v0_0_range, .int v0_0_low, .int v0_0_start, .int v0_0_step])), (h0_1, .inr (0, [.ref h0_1_0, .int u75.2.2.2.1])), (h0_1_0, .inl (c0_1_0, 600, .inl u75.2.2.2.2))]) hP hD [0, 1, 2, 3] [4, 5] rfl rfl (by decide) (by decide) hk1 hFc hP1 hD1
                  generalize H1 = H at hP hS hce ⊢
                  have hP : va_P (dC, dI) zC [(h1, .inr (5, [.ref h1_0, .int v1_size])), (h1_0, .inl (c1_0, 300, .inl g1_values)), (h0, .inr (6, [.ref h0_0, .ref h0_1, .int u75.2.1, .int u54.1, .int u75.2.2.1, .int u60.1, .int u66.1])), (h0_0, .inr (1, [.int v0_0_base, .int v0_0_range, .int v0_0_low, .int v0_0_start, .int v0_0_step])), (h0_1, .inr (0, [.ref h0_1_0, .int u75.2.2.2.1])), (h0_1_0, .inl (c0_1_0, 600, .inl u75.2.2.2.2))] H := hP
                  have hD : va_D A [(h1, .inr (5, [.ref h1_0, .int v1_size])), (h1_0, .inl (c1_0, 300, .inl g1_values)), (h0, .inr (6, [.ref h0_0, .ref h0_1, .int u75.2.1, .int u54.1, .int u75.2.2.1, .int u60.1, .int u66.1])), (h0_0, .inr (1, [.int v0_0_base, .int v0_0_range, .int v0_0_low, .int v0_0_start, .int v0_0_step])), (h0_1, .inr (0, [.ref h0_1_0, .int u75.2.2.2.1])), (h0_1_0, .inl (c0_1_0, 600, .inl u75.2.2.2.2))] := hD
                  have hP9 := hP.sub (ws' := [(h0, .inr (6, [.ref h0_0, .ref h0_1, .int u75.2.1, .int u54.1, .int u75.2.2.1, .int u60.1, .int u66.1])), (h0_0, .inr (1, [.int v0_0_base, .int v0_0_range, .int v0_0_low, .int v0_0_start, .int v0_0_step])), (h0_1, .inr (0, [.ref h0_1_0, .int u75.2.2.2.1])), (h0_1_0, .inl (c0_1_0, 600, .inl u75.2.2.2.2)), (h1, .inr (5, [.ref h1_0, .int v1_size])), (h1_0, .inl (c1_0, 300, .inl g1_values))]) [2, 3, 4, 5, 0, 1] rfl
                  have hD9 := hD.sub (ws' := [(h0, .inr (6, [.ref h0_0, .ref h0_1, .int u75.2.1, .int u54.1, .int u75.2.2.1, .int u60.1, .int u66.1])), (h0_0, .inr (1, [.int v0_0_base, .int v0_0_range, .int v0_0_low, .int v0_0_start, .int v0_0_step])), (h0_1, .inr (0, [.ref h0_1_0, .int u75.2.2.2.1])), (h0_1_0, .inl (c0_1_0, 600, .inl u75.2.2.2.2)), (h1, .inr (5, [.ref h1_0, .int v1_size])), (h1_0, .inl (c1_0, 300, .inl g1_values))]) [2, 3, 4, 5, 0, 1] (by decide) rfl
                  have hK9 := hK.sub (tys' := [(c0_1_0, .int), (c1_0, .int)]) [0, 1] rfl
                  exact tw_out (E := E9) (fun x hx => (hEx x hx).elim) hlocks hce hcv hcl (fun t ht ha => ⟨(u75.1, (u75.2.1, u54.1, u75.2.2.1, u60.1, u66.1, u75.2.2.2.1, u75.2.2.2.2)), hw, ⟨hE, by rw [ht]; exact hP9, va_K.moved ha hK9, hD9⟩, hS.F ht⟩) hS.2.2 (Nat.le_of_ble_eq_true rfl) (Nat.le_of_ble_eq_true rfl)
                · skip
                  obtain ⟨hP1, hK1, hD1⟩ := hB
                  rw [ht] at hP1
                  have hK1 := va_K.moved hvm.symm hK1
                  obtain ⟨hP, hD⟩ := va_join (wr := [(h1, .inr (5, [.ref h1_0, .int v1_size])), (h1_0, .inl (c1_0, 300, .inl g1_values))]) (w1 := [(h0, .inr (6, [.ref h0_0, .ref h0_1, .int u75.1, .int u54.1, .int u75.2.1, .int u60.1, .int u66.1])), (h0_0, .inr (1, [.int v0_0_base, .int v0_0_range, .int v0_0_low, .int v0_0_start, .int v0_0_step])), (h0_1, .inr (0, [.ref h0_1_0, .int u75.2.2.1])), (h0_1_0, .inl (c0_1_0, 600, .inl u75.2.2.2))]) hP hD [0, 1, 2, 3] [4, 5] rfl rfl (by decide) (by decide) hk1 hFc hP1 hD1
                  generalize H1 = H at hP hS ⊢
                  have hP : va_P (dC, dI) zC [(h1, .inr (5, [.ref h1_0, .int v1_size])), (h1_0, .inl (c1_0, 300, .inl g1_values)), (h0, .inr (6, [.ref h0_0, .ref h0_1, .int u75.1, .int u54.1, .int u75.2.1, .int u60.1, .int u66.1])), (h0_0, .inr (1, [.int v0_0_base, .int v0_0_range, .int v0_0_low, .int v0_0_start, .int v0_0_step])), (h0_1, .inr (0, [.ref h0_1_0, .int u75.2.2.1])), (h0_1_0, .inl (c0_1_0, 600, .inl u75.2.2.2))] H := hP
                  have hD : va_D A [(h1, .inr (5, [.ref h1_0, .int v1_size])), (h1_0, .inl (c1_0, 300, .inl g1_values)), (h0, .inr (6, [.ref h0_0, .ref h0_1, .int u75.1, .int u54.1, .int u75.2.1, .int u60.1, .int u66.1])), (h0_0, .inr (1, [.int v0_0_base, .int v0_0_range, .int v0_0_low, .int v0_0_start, .int v0_0_step])), (h0_1, .inr (0, [.ref h0_1_0, .int u75.2.2.1])), (h0_1_0, .inl (c0_1_0, 600, .inl u75.2.2.2))] := hD
                  refine W.widen (k := 0) (n := 0) (Nat.le_of_ble_eq_true rfl) (Nat.le_of_ble_eq_true rfl) ?_
                  obtain ⟨x78, ex78⟩ : ∃ z : Int32, z = v46 + Int32.ofInt 1 := ⟨_, rfl⟩
                  have hw := hw x78 ex78
                  refine lv_iinc (k := 0) (v := x78) (lv' := [(3, .int x78), (0, .ref h0), (1, .ref h1), (2, .int p1)]) hx hb zd_Wr_writeAll_66 hl rfl ex78.symm (by decide) rfl (fun ls hl => ?_)
                  refine lv_goto (tgt := 12) hx hb zd_Wr_writeAll_69 (by decide) ?_
                  exact ih u75.2.2.2 u75.1 u54.1 u75.2.1 u60.1 u66.1 u75.2.2.1 x78 ls H _ (lv_sub hl [0, 1, 2, 3] rfl) (hP.sub (ws' := [(h1, .inr (5, [.ref h1_0, .int v1_size])), (h1_0, .inl (c1_0, 300, .inl g1_values)), (h0, .inr (6, [.ref h0_0, .ref h0_1, .int u75.1, .int u54.1, .int u75.2.1, .int u60.1, .int u66.1])), (h0_0, .inr (1, [.int v0_0_base, .int v0_0_range, .int v0_0_low, .int v0_0_start, .int v0_0_step])), (h0_1, .inr (0, [.ref h0_1_0, .int u75.2.2.1])), (h0_1_0, .inl (c0_1_0, 600, .inl u75.2.2.2))]) [0, 1, 2, 3, 4, 5] rfl) (hD.sub (ws' := [(h1, .inr (5, [.ref h1_0, .int v1_size])), (h1_0, .inl (c1_0, 300, .inl g1_values)), (h0, .inr (6, [.ref h0_0, .ref h0_1, .int u75.1, .int u54.1, .int u75.2.1, .int u60.1, .int u66.1])), (h0_0, .inr (1, [.int v0_0_base, .int v0_0_range, .int v0_0_low, .int v0_0_start, .int v0_0_step])), (h0_1, .inr (0, [.ref h0_1_0, .int u75.2.2.1])), (h0_1_0, .inl (c0_1_0, 600, .inl u75.2.2.2))]) [0, 1, 2, 3, 4, 5] (by decide) rfl) hS hw
    obtain ⟨k, hw⟩ := hw
    exact lp12 k u4.2.2 u4.1 v0_file v0_line v0_column v0_statement u4.2.1 0 ls H _ hl hP hD hS hw
