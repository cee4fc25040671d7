abbrev zo_By_init : Room := { frames := 1, cells := 1, slots := 600, locals := 20 }
abbrev zb_By_init (dC : Nat → ClassId) (dI : Nat → Nat → Nat) (A : Nat → Prop) (h0 : Nat) (u : (Nat → Int32)) (t : State) : Prop := ∃ (qe1 : Nat) (de2 : ClassId), va_P (dC, dI) zC [(h0, .inr (0, [.ref qe1, .int 0])), (qe1, .inl (de2, 600, .inl u))] t.heap ∧ va_K (dC, dI) zC [(de2, .int)] t ∧ va_D A [(h0, .inr (0, [.ref qe1, .int 0])), (qe1, .inl (de2, 600, .inl u))]
set_option maxHeartbeats 4000000 in
set_option maxRecDepth 100000 in
theorem mt_By_init (l : Launch) (dC : Nat → ClassId) (dI : Nat → Nat → Nat) (h0 sz : Nat) (post : ((Nat → Int32)) → Prop) (hw : wp_By_init post) : Met l zy_By_init zs_By_init zo_By_init (zP dC dI [.ref h0] sz [(h0, .inr (0, [.null, .int 0]))] []) (va_Qv (fun (u : (Nat → Int32)) => post u) (zb_By_init dC dI (va_A [(h0, .inr (0, [.null, .int 0]))] sz) h0) (va_A [(h0, .inr (0, [.null, .int 0]))] sz)) 1 600 (va_A [(h0, .inr (0, [.null, .int 0]))] sz) := by
  unfold wp_By_init at hw
  refine Met.ofW (cc := zc_By_init) (maxL := 1) (ret := none) (by decide) rfl ?_
  intro p e s m args below meth c s₁ B hml hv
  obtain ⟨rfl, hsz, hP, hK, hD0⟩ := hv
  have hx := B.exec
  have hb := B.bytes
  have hr := B.returns
  have hts := atoms_spec (ws := zs_By_init) B.pre
  have htb := fun w (h : w ∈ zB) => hts w (List.mem_cons_of_mem _ h)
  have hown : s.vm.findClass zr_0 = some m.cls := findClass_of_methodNamed B.named
  have hlocks := B.notSynchronized
  have hin : meth.name = "<init>" := (name_of_methodNamed B.named B.method).1
  subst hsz
  have hD := hD0.self (sz := s.heap.size)
  generalize hAe : va_A [(h0, .inr (0, [.null, .int 0]))] s.heap.size = A at hD ⊢
  have hA : ∀ q : Nat, s.heap.size ≤ q → A q := fun q h => by rw [← hAe]; exact Or.inr h
  clear hAe hD0
  have hl := lv_entry ([.ref h0]) (n := 1) (Nat.le_of_ble_eq_true rfl)
  rw [lg_entry_eq]
  generalize (lg_sl ([.ref h0]) ++ List.replicate (1 - (lg_sl ([.ref h0])).length) Slot.unset).toArray = ls at hl ⊢
  have hl : lv_has ls 1 [(0, .ref h0)] := hl
  obtain ⟨H, hH⟩ : ∃ H, H = s.heap := ⟨_, rfl⟩
  have hS : va_S A s.heap H [] := by rw [hH]; exact va_S.rf
  rw [← hH] at hP ⊢
  refine lv_aload_n hx hb zd_By_init_0 rfl (lv_at hl 0 rfl) ?_
  refine W.objInit hx hb hown (htb _ zw_64) (htb _ zw_25) (htb _ zw_26) rfl (by rw [hml]; exact hl.1) rfl zd_By_init_1 (Nat.le_of_ble_eq_true rfl) (Nat.le_of_ble_eq_true rfl) ?_
  refine W.eq (g2 := F0 m 4 ls []) rfl ?_
  refine lv_aload_n hx hb zd_By_init_4 rfl (lv_at hl 0 rfl) ?_
  refine lv_sipush (v := 600) hx hb zd_By_init_5 (by decide) ?_
  refine va_newa (atype := .int) (a0 := (600, .inl (fun _ => 0))) (N' := 600) (ty := .int) hx hb (htb _ zw_74) rfl hK hP hD hS hA (fun _ => rfl) (by decide) (by decide) (by decide) (Nat.le_of_ble_eq_true rfl) (Nat.le_of_ble_eq_true rfl) zd_By_init_8 (fun q1 d2 H hK hP hD hS => ?_)
  have hP : va_P (dC, dI) zC [(h0, .inr (0, [.null, .int 0])), (q1, .inl (d2, 600, .inl (fun _ => 0)))] H := hP
  have hD : va_D A [(h0, .inr (0, [.null, .int 0])), (q1, .inl (d2, 600, .inl (fun _ => 0)))] := hD
  have hK : va_K (dC, dI) zC [(d2, .int)] s := hK
  refine W.widen (k := 1) (n := 600) (Nat.le_of_ble_eq_true rfl) (Nat.le_of_ble_eq_true rfl) ?_
  refine va_putF (D := (dC, dI)) (ci := 0) (v := .ref q1) (ty := (.array .int)) (C := zr_0) (T := zt_0) (N := 2) hx hb htb zi_0 zf_0 zk_0 zn_0 hown hK hP hD hS 0 rfl rfl 0 (by decide) (htb _ zw_65) (fun _ h9 => h9) rfl hin rfl (by decide +kernel) rfl rfl (Nat.le_of_ble_eq_true rfl) zd_By_init_10 (fun H locs hP hD hS => ?_)
  have hP : va_P (dC, dI) zC [(h0, .inr (0, [.ref q1, .int 0])), (q1, .inl (d2, 600, .inl (fun _ => 0)))] H := hP
  have hD : va_D A [(h0, .inr (0, [.ref q1, .int 0])), (q1, .inl (d2, 600, .inl (fun _ => 0)))] := hD
  refine lv_aload_n hx hb zd_By_init_13 rfl (lv_at hl 0 rfl) ?_
  refine lv_iconst (v := 0) hx hb zd_By_init_14 (by decide) ?_
  refine va_put (D := (dC, dI)) (ci := 0) (v := .int 0) (ty := .int) (C := zr_0) (T := zt_0) (N := 2) hx hb htb zi_0 zf_0 zk_0 zn_0 hown hK hP hD hS 0 rfl rfl 1 (by decide) (htb _ zw_66) (fun _ h9 => h9) rfl (by decide +kernel) rfl rfl (Nat.le_of_ble_eq_true rfl) zd_By_init_15 (fun H locs hP hD hS => ?_)
  have hP : va_P (dC, dI) zC [(h0, .inr (0, [.ref q1, .int 0])), (q1, .inl (d2, 600, .inl (fun _ => 0)))] H := hP
  have hD : va_D A [(h0, .inr (0, [.ref q1, .int 0])), (q1, .inl (d2, 600, .inl (fun _ => 0)))] := hD
  have hP9 := hP.sub (ws' := [(h0, .inr (0, [.ref q1, .int 0])), (q1, .inl (d2, 600, .inl (fun _ => 0)))]) [0, 1] rfl
  have hD9 := hD.sub (ws' := [(h0, .inr (0, [.ref q1, .int 0])), (q1, .inl (d2, 600, .inl (fun _ => 0)))]) [0, 1] (by decide) rfl
  have hK9 := hK.sub (tys' := [(d2, .int)]) [0] rfl
  refine W.widen (k := 1) (n := 600) (Nat.le_of_ble_eq_true rfl) (Nat.le_of_ble_eq_true rfl) ?_
  exact W.vret hx hb hr (fun t ht hW => ⟨⟨(fun _ => 0), rfl, hw, q1, d2, by rw [ht]; exact hP9, va_K.moved hW.alike hK9, hD9⟩, hS.F ht⟩) hS.2.2 zd_By_init_18
abbrev zo_By_get : Room := { frames := 0, cells := 0, slots := 0, locals := 0 }
abbrev zb_By_get (dC : Nat → ClassId) (dI : Nat → Nat → Nat) (A : Nat → Prop) (h0 h0_0 : Nat) (c0_0 : ClassId) (v0_size : Int32) (g0_values : Nat → Int32) (u : Unit) (t : State) : Prop := va_P (dC, dI) zC [(h0, .inr (0, [.ref h0_0, .int v0_size])), (h0_0, .inl (c0_0, 600, .inl g0_values))] t.heap ∧ va_K (dC, dI) zC [(c0_0, .int)] t ∧ va_D A [(h0, .inr (0, [.ref h0_0, .int v0_size])), (h0_0, .inl (c0_0, 600, .inl g0_values))]
set_option maxHeartbeats 4000000 in
set_option maxRecDepth 100000 in
theorem mt_By_get (l : Launch) (dC : Nat → ClassId) (dI : Nat → Nat → Nat) (h0 h0_0 sz : Nat) (c0_0 : ClassId) (v0_size : Int32) (g0_values : Nat → Int32) (p0 : Int32) (post : Int32 → Unit → Prop) (hw : wp_By_get g0_values p0 post) : Met l zy_By_get zs_By_get zo_By_get (zP dC dI [.ref h0, .int p0] sz [(h0, .inr (0, [.ref h0_0, .int v0_size])), (h0_0, .inl (c0_0, 600, .inl g0_values))] [(c0_0, .int)]) (va_Qi (fun (r : Int32) (u : Unit) => post r u) (zb_By_get dC dI (va_A [(h0, .inr (0, [.ref h0_0, .int v0_size])), (h0_0, .inl (c0_0, 600, .inl g0_values))] sz) h0 h0_0 c0_0 v0_size g0_values) (va_A [(h0, .inr (0, [.ref h0_0, .int v0_size])), (h0_0, .inl (c0_0, 600, .inl g0_values))] sz)) 0 0 (va_A [(h0, .inr (0, [.ref h0_0, .int v0_size])), (h0_0, .inl (c0_0, 600, .inl g0_values))] sz) := by
  unfold wp_By_get at hw
  refine Met.ofW (cc := zc_By_get) (maxL := 2) (ret := (some .int)) (by decide) rfl ?_
  intro p e s m args below meth c s₁ B hml hv
  obtain ⟨rfl, hsz, hP, hK, hD0⟩ := hv
  have hx := B.exec
  have hb := B.bytes
  have hr := B.returns
  have hts := atoms_spec (ws := zs_By_get) B.pre
  have htb := fun w (h : w ∈ zB) => hts w (List.mem_cons_of_mem _ h)
  have hown : s.vm.findClass zr_0 = some m.cls := findClass_of_methodNamed B.named
  have hlocks := B.notSynchronized
  subst hsz
  have hD := hD0.self (sz := s.heap.size)
  generalize hAe : va_A [(h0, .inr (0, [.ref h0_0, .int v0_size])), (h0_0, .inl (c0_0, 600, .inl g0_values))] s.heap.size = A at hD ⊢
  have hA : ∀ q : Nat, s.heap.size ≤ q → A q := fun q h => by rw [← hAe]; exact Or.inr h
  clear hAe hD0
  have hl := lv_entry ([.ref h0, .int p0]) (n := 2) (Nat.le_of_ble_eq_true rfl)
  rw [lg_entry_eq]
  generalize (lg_sl ([.ref h0, .int p0]) ++ List.replicate (2 - (lg_sl ([.ref h0, .int p0])).length) Slot.unset).toArray = ls at hl ⊢
  have hl : lv_has ls 2 [(0, .ref h0), (1, .int p0)] := hl
  obtain ⟨H, hH⟩ : ∃ H, H = s.heap := ⟨_, rfl⟩
  have hS : va_S A s.heap H [] := by rw [hH]; exact va_S.rf
  rw [← hH] at hP ⊢
  refine lv_aload_n hx hb zd_By_get_0 rfl (lv_at hl 0 rfl) ?_
  refine va_get (D := (dC, dI)) (ci := 0) (v := .ref h0_0) (C := zr_0) (T := zt_0) (N := 2) hx hb htb zi_0 hown hK hP 0 rfl rfl 0 (by decide) (htb _ zw_65) (fun _ h9 => h9) rfl zd_By_get_1 ?_
  refine lv_iload_n hx hb zd_By_get_4 rfl (lv_at hl 1 rfl) ?_
  obtain ⟨h1, hw⟩ := hw
  refine va_iald (D := (dC, dI)) hx hb hK hP 1 0 rfl rfl h1 zd_By_get_5 ?_
  refine lv_topi (fun x2 ex2 => ?_)
  have hw := hw x2 ex2
  have hP9 := hP.sub (ws' := [(h0, .inr (0, [.ref h0_0, .int v0_size])), (h0_0, .inl (c0_0, 600, .inl g0_values))]) [0, 1] rfl
  have hD9 := hD.sub (ws' := [(h0, .inr (0, [.ref h0_0, .int v0_size])), (h0_0, .inl (c0_0, 600, .inl g0_values))]) [0, 1] (by decide) rfl
  have hK9 := hK.sub (tys' := [(c0_0, .int)]) [0] rfl
  refine W.widen (k := 0) (n := 0) (Nat.le_of_ble_eq_true rfl) (Nat.le_of_ble_eq_true rfl) ?_
  exact W.iret (v := x2) hx hb hr (fun t ht hW => ⟨⟨x2, (), rfl, hw, by rw [ht]; exact hP9, va_K.moved hW.alike hK9, hD9⟩, hS.F ht⟩) hS.2.2 zd_By_get_6
abbrev zo_By_append : Room := { frames := 6, cells := 1, slots := 6, locals := 90 }
abbrev zb_By_append (dC : Nat → ClassId) (dI : Nat → Nat → Nat) (A : Nat → Prop) (h0 h0_0 : Nat) (c0_0 : ClassId) (u : Int32 × (Nat → Int32)) (t : State) : Prop := va_P (dC, dI) zC [(h0, .inr (0, [.ref h0_0, .int u.1])), (h0_0, .inl (c0_0, 600, .inl u.2))] t.heap ∧ va_K (dC, dI) zC [(c0_0, .int)] t ∧ va_D A [(h0, .inr (0, [.ref h0_0, .int u.1])), (h0_0, .inl (c0_0, 600, .inl u.2))]
abbrev zx_By_append (dC : Nat → ClassId) (dI : Nat → Nat → Nat) (A : Nat → Prop) (h0 h0_0 : Nat) (c0_0 : ClassId) (E : String) (u : Nat × (Int32 × (Nat → Int32))) (t : State) : Prop := E = zE u.1 ∧ zb_By_append dC dI A h0 h0_0 c0_0 u.2 t
set_option maxHeartbeats 4000000 in
set_option maxRecDepth 100000 in
theorem mt_By_append (l : Launch) (hl9 : l.stackTraces = false) (dC : Nat → ClassId) (dI : Nat → Nat → Nat) (sa : Nat → Nat) (h0 h0_0 sz : Nat) (c0_0 : ClassId) (v0_size : Int32) (g0_values : Nat → Int32) (p0 : Int32) (post : (Int32 × (Nat → Int32)) → Prop) (postX : Nat × (Int32 × (Nat → Int32)) → Prop) (hw : wp_By_append v0_size g0_values p0 post postX) : tw_Met l zy_By_append zs_By_append zo_By_append (zPx dC dI sa [.ref h0, .int p0] sz [(h0, .inr (0, [.ref h0_0, .int v0_size])), (h0_0, .inl (c0_0, 600, .inl g0_values))] [(c0_0, .int)]) (va_Qv (fun (u : Int32 × (Nat → Int32)) => post u) (zb_By_append dC dI (va_A [(h0, .inr (0, [.ref h0_0, .int v0_size])), (h0_0, .inl (c0_0, 600, .inl g0_values))] sz) h0 h0_0 c0_0) (va_A [(h0, .inr (0, [.ref h0_0, .int v0_size])), (h0_0, .inl (c0_0, 600, .inl g0_values))] sz)) (vx_X (fun (u : Nat × (Int32 × (Nat → Int32))) => postX u) (zx_By_append dC dI (va_A [(h0, .inr (0, [.ref h0_0, .int v0_size])), (h0_0, .inl (c0_0, 600, .inl g0_values))] sz) h0 h0_0 c0_0) (va_A [(h0, .inr (0, [.ref h0_0, .int v0_size])), (h0_0, .inl (c0_0, 600, .inl g0_values))] sz)) 0 0 1 6 (va_A [(h0, .inr (0, [.ref h0_0, .int v0_size])), (h0_0, .inl (c0_0, 600, .inl g0_values))] sz) := by
  unfold wp_By_append at hw
  refine tw_ofW (cc := zc_By_append) (maxL := 2) (ret := none) (by decide) rfl ?_
  intro p e s m args below meth c s₁ B hml hEx hv
  obtain ⟨rfl, hsz, hP, hK, hD0, hZ⟩ := hv
  have hx := B.exec
  have hb := B.bytes
  have hr := B.returns
  have hts := atoms_spec (ws := zs_By_append) B.pre
  have htb := fun w (h : w ∈ zB) => hts w (List.mem_cons_of_mem _ h)
  have hown : s.vm.findClass zr_0 = some m.cls := findClass_of_methodNamed B.named
  have hlocks := B.notSynchronized
  subst hsz
  have hD := hD0.self (sz := s.heap.size)
  generalize hAe : va_A [(h0, .inr (0, [.ref h0_0, .int v0_size])), (h0_0, .inl (c0_0, 600, .inl g0_values))] s.heap.size = A at hD hZ ⊢
  have hA : ∀ q : Nat, s.heap.size ≤ q → A q := fun q h => by rw [← hAe]; exact Or.inr h
  clear hAe hD0
  have hl := lv_entry ([.ref h0, .int p0]) (n := 2) (Nat.le_of_ble_eq_true rfl)
  rw [lg_entry_eq]
  generalize (lg_sl ([.ref h0, .int p0]) ++ List.replicate (2 - (lg_sl ([.ref h0, .int p0])).length) Slot.unset).toArray = ls at hl ⊢
  have hl : lv_has ls 2 [(0, .ref h0), (1, .int p0)] := hl
  obtain ⟨H, hH⟩ : ∃ H, H = s.heap := ⟨_, rfl⟩
  have hS : va_S A s.heap H [] := by rw [hH]; exact va_S.rf
  rw [← hH] at hP ⊢
  refine lv_aload_n hx hb zd_By_append_0 rfl (lv_at hl 0 rfl) ?_
  refine va_get (D := (dC, dI)) (ci := 0) (v := .int v0_size) (C := zr_0) (T := zt_0) (N := 2) hx hb htb zi_0 hown hK hP 0 rfl rfl 1 (by decide) (htb _ zw_66) (fun _ h9 => h9) rfl zd_By_append_1 ?_
  refine lv_sipush (v := 600) hx hb zd_By_append_4 (by decide) ?_
  refine lv_icmp_lt (tgt := 20) hx hb zd_By_append_7 (by decide) (fun h1 => ?_) (fun h1 => ?_)
  · have hw := hw.1 h1
    refine lv_aload_n hx hb zd_By_append_20 rfl (lv_at hl 0 rfl) ?_
    refine va_get (D := (dC, dI)) (ci := 0) (v := .ref h0_0) (C := zr_0) (T := zt_0) (N := 2) hx hb htb zi_0 hown hK hP 0 rfl rfl 0 (by decide) (htb _ zw_65) (fun _ h9 => h9) rfl zd_By_append_21 ?_
    refine lv_aload_n hx hb zd_By_append_24 rfl (lv_at hl 0 rfl) ?_
    refine va_get (D := (dC, dI)) (ci := 0) (v := .int v0_size) (C := zr_0) (T := zt_0) (N := 2) hx hb htb zi_0 hown hK hP 0 rfl rfl 1 (by decide) (htb _ zw_66) (fun _ h9 => h9) rfl zd_By_append_25 ?_
    refine lv_iload_n hx hb zd_By_append_28 rfl (lv_at hl 1 rfl) ?_
    refine lv_sipush (v := 255) hx hb zd_By_append_29 (by decide) ?_
    refine lv_iand hx hb zd_By_append_32 ?_
    refine lv_topi (fun x2 ex2 => ?_)
    have hw := hw x2 ex2
    obtain ⟨h3, hw⟩ := hw
    obtain ⟨g4, eg4⟩ : ∃ z : Nat → Int32, z = upd g0_values v0_size.toNatClampNeg x2 := ⟨_, rfl⟩
    have hw := hw g4 eg4
    refine va_iast (D := (dC, dI)) hx hb hK hP hD hS 1 0 rfl rfl h3 zd_By_append_33 (fun H locs hP hD hS => ?_)
    rw [← eg4] at hP hD
    have hP : va_P (dC, dI) zC [(h0, .inr (0, [.ref h0_0, .int v0_size])), (h0_0, .inl (c0_0, 600, .inl g4))] H := hP
    have hD : va_D A [(h0, .inr (0, [.ref h0_0, .int v0_size])), (h0_0, .inl (c0_0, 600, .inl g4))] := hD
    refine lv_aload_n hx hb zd_By_append_34 rfl (lv_at hl 0 rfl) ?_
    refine lv_dup hx hb zd_By_append_35 rfl ?_
    refine va_get (D := (dC, dI)) (ci := 0) (v := .int v0_size) (C := zr_0) (T := zt_0) (N := 2) hx hb htb zi_0 hown hK hP 0 rfl rfl 1 (by decide) (htb _ zw_66) (fun _ h9 => h9) rfl zd_By_append_36 ?_
    refine lv_iconst (v := 1) hx hb zd_By_append_39 (by decide) ?_
    refine lv_iadd hx hb zd_By_append_40 ?_
    refine lv_topi (fun x5 ex5 => ?_)
    have hw := hw x5 ex5
    refine va_put (D := (dC, dI)) (ci := 0) (v := .int x5) (ty := .int) (C := zr_0) (T := zt_0) (N := 2) hx hb htb zi_0 zf_0 zk_0 zn_0 hown hK hP hD hS 0 rfl rfl 1 (by decide) (htb _ zw_66) (fun _ h9 => h9) rfl (by decide +kernel) rfl rfl (Nat.le_of_ble_eq_true rfl) zd_By_append_41 (fun H locs hP hD hS => ?_)
    have hP : va_P (dC, dI) zC [(h0, .inr (0, [.ref h0_0, .int x5])), (h0_0, .inl (c0_0, 600, .inl g4))] H := hP
    have hD : va_D A [(h0, .inr (0, [.ref h0_0, .int x5])), (h0_0, .inl (c0_0, 600, .inl g4))] := hD
    have hP9 := hP.sub (ws' := [(h0, .inr (0, [.ref h0_0, .int x5])), (h0_0, .inl (c0_0, 600, .inl g4))]) [0, 1] rfl
    have hD9 := hD.sub (ws' := [(h0, .inr (0, [.ref h0_0, .int x5])), (h0_0, .inl (c0_0, 600, .inl g4))]) [0, 1] (by decide) rfl
    have hK9 := hK.sub (tys' := [(c0_0, .int)]) [0] rfl
    refine W.widen (k := 0) (n := 0) (Nat.le_of_ble_eq_true rfl) (Nat.le_of_ble_eq_true rfl) ?_
    refine tw_ret ?_
    exact W.vret hx hb hr (fun t ht hW => ⟨⟨(x5, g4), rfl, hw, by rw [ht]; exact hP9, va_K.moved hW.alike hK9, hD9⟩, hS.F ht⟩) hS.2.2 zd_By_append_44
  · have hw := hw.2 h1
    have hP9 := hP.sub (ws' := [(h0, .inr (0, [.ref h0_0, .int v0_size])), (h0_0, .inl (c0_0, 600, .inl g0_values))]) [0, 1] rfl
    have hD9 := hD.sub (ws' := [(h0, .inr (0, [.ref h0_0, .int v0_size])), (h0_0, .inl (c0_0, 600, .inl g0_values))]) [0, 1] (by decide) rfl
    have hK9 := hK.sub (tys' := [(c0_0, .int)]) [0] rfl
    exact tw_throwS (own := zr_0) (cls := "java/lang/IllegalStateException") (text := "the program is full") (names := ["java/lang/RuntimeException", "java/lang/Exception"]) (ik := 19) (is := 21) (ic := 23) hx hb hl9 hown (by decide +kernel) (by decide +kernel) (htb _ zw_167) (htb _ zw_10) (hZ.2.2.1 0 (zr_0, 21, "the program is full") rfl) (zh_By_23 htb hZ) zg_By_23 hZ.1 hZ.2.1 hS (hl.1.trans hml.symm) zd_By_append_10 zd_By_append_13 zd_By_append_14 zd_By_append_16 zd_By_append_19 (fun x hx => (hEx x hx).elim) (Nat.le_of_ble_eq_true rfl) (Nat.le_of_ble_eq_true rfl) (Nat.le_of_ble_eq_true rfl) (Nat.le_of_ble_eq_true rfl) hlocks (fun t ha hz hk => ⟨(5, (v0_size, g0_values)), hw, ⟨rfl, hP9.kept (fun k q h => hk _ (hP9 k q h).lt), va_K.moved ha hK9, hD9⟩, zFX hS hz hk⟩) hS.2.2 (Nat.le_of_ble_eq_true rfl) (Nat.le_of_ble_eq_true rfl)
abbrev zo_He_init : Room := { frames := 1, cells := 0, slots := 0, locals := 20 }
abbrev zb_He_init (dC : Nat → ClassId) (dI : Nat → Nat → Nat) (A : Nat → Prop) (h0 : Nat) (u : Int32 × Int32 × Int32 × Int32 × Int32) (t : State) : Prop := va_P (dC, dI) zC [(h0, .inr (1, [.int u.1, .int u.2.1, .int u.2.2.1, .int u.2.2.2.1, .int u.2.2.2.2]))] t.heap ∧ va_K (dC, dI) zC [] t ∧ va_D A [(h0, .inr (1, [.int u.1, .int u.2.1, .int u.2.2.1, .int u.2.2.2.1, .int u.2.2.2.2]))]
set_option maxHeartbeats 4000000 in
set_option maxRecDepth 100000 in
theorem mt_He_init (l : Launch) (dC : Nat → ClassId) (dI : Nat → Nat → Nat) (h0 sz : Nat) (p0 : Int32) (p1 : Int32) (p2 : Int32) (p3 : Int32) (post : (Int32 × Int32 × Int32 × Int32 × Int32) → Prop) (hw : wp_He_init p0 p1 p2 p3 post) : Met l zy_He_init zs_He_init zo_He_init (zP dC dI [.ref h0, .int p0, .int p1, .int p2, .int p3] sz [(h0, .inr (1, [.int 0, .int 0, .int 0, .int 0, .int 0]))] []) (va_Qv (fun (u : Int32 × Int32 × Int32 × Int32 × Int32) => post u) (zb_He_init dC dI (va_A [(h0, .inr (1, [.int 0, .int 0, .int 0, .int 0, .int 0]))] sz) h0) (va_A [(h0, .inr (1, [.int 0, .int 0, .int 0, .int 0, .int 0]))] sz)) 0 0 (va_A [(h0, .inr (1, [.int 0, .int 0, .int 0, .int 0, .int 0]))] sz) := by
  unfold wp_He_init at hw
  refine Met.ofW (cc := zc_He_init) (maxL := 5) (ret := none) (by decide) rfl ?_
  intro p e s m args below meth c s₁ B hml hv
  obtain ⟨rfl, hsz, hP, hK, hD0⟩ := hv
  have hx := B.exec
  have hb := B.bytes
  have hr := B.returns
  have hts := atoms_spec (ws := zs_He_init) B.pre
  have htb := fun w (h : w ∈ zB) => hts w (List.mem_cons_of_mem _ h)
  have hown : s.vm.findClass zr_1 = some m.cls := findClass_of_methodNamed B.named
  have hlocks := B.notSynchronized
  have hin : meth.name = "<init>" := (name_of_methodNamed B.named B.method).1
  subst hsz
  have hD := hD0.self (sz := s.heap.size)
  generalize hAe : va_A [(h0, .inr (1, [.int 0, .int 0, .int 0, .int 0, .int 0]))] s.heap.size = A at hD ⊢
  have hA : ∀ q : Nat, s.heap.size ≤ q → A q := fun q h => by rw [← hAe]; exact Or.inr h
  clear hAe hD0
  have hl := lv_entry ([.ref h0, .int p0, .int p1, .int p2, .int p3]) (n := 5) (Nat.le_of_ble_eq_true rfl)
  rw [lg_entry_eq]
  generalize (lg_sl ([.ref h0, .int p0, .int p1, .int p2, .int p3]) ++ List.replicate (5 - (lg_sl ([.ref h0, .int p0, .int p1, .int p2, .int p3])).length) Slot.unset).toArray = ls at hl ⊢
  have hl : lv_has ls 5 [(0, .ref h0), (1, .int p0), (2, .int p1), (3, .int p2), (4, .int p3)] := hl
  obtain ⟨H, hH⟩ : ∃ H, H = s.heap := ⟨_, rfl⟩
  have hS : va_S A s.heap H [] := by rw [hH]; exact va_S.rf
  rw [← hH] at hP ⊢
  refine lv_aload_n hx hb zd_He_init_0 rfl (lv_at hl 0 rfl) ?_
  refine W.objInit hx hb hown (htb _ zw_32) (htb _ zw_25) (htb _ zw_26) rfl (by rw [hml]; exact hl.1) rfl zd_He_init_1 (Nat.le_of_ble_eq_true rfl) (Nat.le_of_ble_eq_true rfl) ?_
  refine W.eq (g2 := F0 m 4 ls []) rfl ?_
  refine lv_aload_n hx hb zd_He_init_4 rfl (lv_at hl 0 rfl) ?_
  refine lv_iload_n hx hb zd_He_init_5 rfl (lv_at hl 1 rfl) ?_
  refine va_putF (D := (dC, dI)) (ci := 1) (v := .int p0) (ty := .int) (C := zr_1) (T := zt_1) (N := 5) hx hb htb zi_1 zf_1 zk_1 zn_1 hown hK hP hD hS 0 rfl rfl 0 (by decide) (htb _ zw_33) (fun _ h9 => h9) rfl hin rfl (by decide +kernel) rfl rfl (Nat.le_of_ble_eq_true rfl) zd_He_init_6 (fun H locs hP hD hS => ?_)
  have hP : va_P (dC, dI) zC [(h0, .inr (1, [.int p0, .int 0, .int 0, .int 0, .int 0]))] H := hP
  have hD : va_D A [(h0, .inr (1, [.int p0, .int 0, .int 0, .int 0, .int 0]))] := hD
  refine lv_aload_n hx hb zd_He_init_9 rfl (lv_at hl 0 rfl) ?_
  refine lv_iload_n hx hb zd_He_init_10 rfl (lv_at hl 2 rfl) ?_
  refine va_putF (D := (dC, dI)) (ci := 1) (v := .int p1) (ty := .int) (C := zr_1) (T := zt_1) (N := 5) hx hb htb zi_1 zf_1 zk_1 zn_1 hown hK hP hD hS 0 rfl rfl 1 (by decide) (htb _ zw_36) (fun _ h9 => h9) rfl hin rfl (by decide +kernel) rfl rfl (Nat.le_of_ble_eq_true rfl) zd_He_init_11 (fun H locs hP hD hS => ?_)
  have hP : va_P (dC, dI) zC [(h0, .inr (1, [.int p0, .int p1, .int 0, .int 0, .int 0]))] H := hP
  have hD : va_D A [(h0, .inr (1, [.int p0, .int p1, .int 0, .int 0, .int 0]))] := hD
  refine lv_aload_n hx hb zd_He_init_14 rfl (lv_at hl 0 rfl) ?_
  refine lv_iload_n hx hb zd_He_init_15 rfl (lv_at hl 3 rfl) ?_
  refine va_putF (D := (dC, dI)) (ci := 1) (v := .int p2) (ty := .int) (C := zr_1) (T := zt_1) (N := 5) hx hb htb zi_1 zf_1 zk_1 zn_1 hown hK hP hD hS 0 rfl rfl 2 (by decide) (htb _ zw_39) (fun _ h9 => h9) rfl hin rfl (by decide +kernel) rfl rfl (Nat.le_of_ble_eq_true rfl) zd_He_init_16 (fun H locs hP hD hS => ?_)
  have hP : va_P (dC, dI) zC [(h0, .inr (1, [.int p0, .int p1, .int p2, .int 0, .int 0]))] H := hP
  have hD : va_D A [(h0, .inr (1, [.int p0, .int p1, .int p2, .int 0, .int 0]))] := hD
  refine lv_aload_n hx hb zd_He_init_19 rfl (lv_at hl 0 rfl) ?_
  refine lv_iload hx hb zd_He_init_20 (lv_at hl 4 rfl) ?_
  refine va_putF (D := (dC, dI)) (ci := 1) (v := .int p3) (ty := .int) (C := zr_1) (T := zt_1) (N := 5) hx hb htb zi_1 zf_1 zk_1 zn_1 hown hK hP hD hS 0 rfl rfl 3 (by decide) (htb _ zw_42) (fun _ h9 => h9) rfl hin rfl (by decide +kernel) rfl rfl (Nat.le_of_ble_eq_true rfl) zd_He_init_22 (fun H locs hP hD hS => ?_)
  have hP : va_P (dC, dI) zC [(h0, .inr (1, [.int p0, .int p1, .int p2, .int p3, .int 0]))] H := hP
  have hD : va_D A [(h0, .inr (1, [.int p0, .int p1, .int p2, .int p3, .int 0]))] := hD
  refine lv_aload_n hx hb zd_He_init_25 rfl (lv_at hl 0 rfl) ?_
  refine lv_sipush (v := 255) hx hb zd_He_init_26 (by decide) ?_
  refine lv_iload_n hx hb zd_He_init_29 rfl (lv_at hl 1 rfl) ?_
  refine lv_isub hx hb zd_He_init_30 ?_
  refine lv_topi (fun x1 ex1 => ?_)
  have hw := hw x1 ex1
  refine lv_iload_n hx hb zd_He_init_31 rfl (lv_at hl 2 rfl) ?_
  obtain ⟨h3, hw⟩ := hw
  refine lv_idiv hx hb zd_He_init_32 h3 ?_
  refine lv_topi (fun x2 ex2 => ?_)
  have hw := hw x2 ex2
  refine va_putF (D := (dC, dI)) (ci := 1) (v := .int x2) (ty := .int) (C := zr_1) (T := zt_1) (N := 5) hx hb htb zi_1 zf_1 zk_1 zn_1 hown hK hP hD hS 0 rfl rfl 4 (by decide) (htb _ zw_45) (fun _ h9 => h9) rfl hin rfl (by decide +kernel) rfl rfl (Nat.le_of_ble_eq_true rfl) zd_He_init_33 (fun H locs hP hD hS => ?_)
  have hP : va_P (dC, dI) zC [(h0, .inr (1, [.int p0, .int p1, .int p2, .int p3, .int x2]))] H := hP
  have hD : va_D A [(h0, .inr (1, [.int p0, .int p1, .int p2, .int p3, .int x2]))] := hD
  have hP9 := hP.sub (ws' := [(h0, .inr (1, [.int p0, .int p1, .int p2, .int p3, .int x2]))]) [0] rfl
  have hD9 := hD.sub (ws' := [(h0, .inr (1, [.int p0, .int p1, .int p2, .int p3, .int x2]))]) [0] (by decide) rfl
  have hK9 := hK.sub (tys' := []) [] rfl
  refine W.widen (k := 0) (n := 0) (Nat.le_of_ble_eq_true rfl) (Nat.le_of_ble_eq_true rfl) ?_
  exact W.vret hx hb hr (fun t ht hW => ⟨⟨(p0, p1, p2, p3, x2), rfl, hw, by rw [ht]; exact hP9, va_K.moved hW.alike hK9, hD9⟩, hS.F ht⟩) hS.2.2 zd_He_init_36
abbrev zo_Ro_init : Room := { frames := 1, cells := 1, slots := 630, locals := 20 }
abbrev zb_Ro_init (dC : Nat → ClassId) (dI : Nat → Nat → Nat) (A : Nat → Prop) (h0 : Nat) (u : (Nat → Int32)) (t : State) : Prop := ∃ (qe1 : Nat) (de2 : ClassId), va_P (dC, dI) zC [(h0, .inr (4, [.ref qe1, .int 0])), (qe1, .inl (de2, 630, .inl u))] t.heap ∧ va_K (dC, dI) zC [(de2, .int)] t ∧ va_D A [(h0, .inr (4, [.ref qe1, .int 0])), (qe1, .inl (de2, 630, .inl u))]
set_option maxHeartbeats 4000000 in
set_option maxRecDepth 100000 in
theorem mt_Ro_init (l : Launch) (dC : Nat → ClassId) (dI : Nat → Nat → Nat) (h0 sz : Nat) (post : ((Nat → Int32)) → Prop) (hw : wp_Ro_init post) : Met l zy_Ro_init zs_Ro_init zo_Ro_init (zP dC dI [.ref h0] sz [(h0, .inr (4, [.null, .int 0]))] []) (va_Qv (fun (u : (Nat → Int32)) => post u) (zb_Ro_init dC dI (va_A [(h0, .inr (4, [.null, .int 0]))] sz) h0) (va_A [(h0, .inr (4, [.null, .int 0]))] sz)) 1 630 (va_A [(h0, .inr (4, [.null, .int 0]))] sz) := by
  unfold wp_Ro_init at hw
  refine Met.ofW (cc := zc_Ro_init) (maxL := 1) (ret := none) (by decide) rfl ?_
  intro p e s m args below meth c s₁ B hml hv
  obtain ⟨rfl, hsz, hP, hK, hD0⟩ := hv
  have hx := B.exec
  have hb := B.bytes
  have hr := B.returns
  have hts := atoms_spec (ws := zs_Ro_init) B.pre
  have htb := fun w (h : w ∈ zB) => hts w (List.mem_cons_of_mem _ h)
  have hown : s.vm.findClass zr_4 = some m.cls := findClass_of_methodNamed B.named
  have hlocks := B.notSynchronized
  have hin : meth.name = "<init>" := (name_of_methodNamed B.named B.method).1
  subst hsz
  have hD := hD0.self (sz := s.heap.size)
  generalize hAe : va_A [(h0, .inr (4, [.null, .int 0]))] s.heap.size = A at hD ⊢
  have hA : ∀ q : Nat, s.heap.size ≤ q → A q := fun q h => by rw [← hAe]; exact Or.inr h
  clear hAe hD0
  have hl := lv_entry ([.ref h0]) (n := 1) (Nat.le_of_ble_eq_true rfl)
  rw [lg_entry_eq]
  generalize (lg_sl ([.ref h0]) ++ List.replicate (1 - (lg_sl ([.ref h0])).length) Slot.unset).toArray = ls at hl ⊢
  have hl : lv_has ls 1 [(0, .ref h0)] := hl
  obtain ⟨H, hH⟩ : ∃ H, H = s.heap := ⟨_, rfl⟩
  have hS : va_S A s.heap H [] := by rw [hH]; exact va_S.rf
  rw [← hH] at hP ⊢
  refine lv_aload_n hx hb zd_Ro_init_0 rfl (lv_at hl 0 rfl) ?_
  refine W.objInit hx hb hown (htb _ zw_80) (htb _ zw_25) (htb _ zw_26) rfl (by rw [hml]; exact hl.1) rfl zd_Ro_init_1 (Nat.le_of_ble_eq_true rfl) (Nat.le_of_ble_eq_true rfl) ?_
  refine W.eq (g2 := F0 m 4 ls []) rfl ?_
  refine lv_aload_n hx hb zd_Ro_init_4 rfl (lv_at hl 0 rfl) ?_
  refine lv_sipush (v := 630) hx hb zd_Ro_init_5 (by decide) ?_
  refine va_newa (atype := .int) (a0 := (630, .inl (fun _ => 0))) (N' := 630) (ty := .int) hx hb (htb _ zw_74) rfl hK hP hD hS hA (fun _ => rfl) (by decide) (by decide) (by decide) (Nat.le_of_ble_eq_true rfl) (Nat.le_of_ble_eq_true rfl) zd_Ro_init_8 (fun q1 d2 H hK hP hD hS => ?_)
  have hP : va_P (dC, dI) zC [(h0, .inr (4, [.null, .int 0])), (q1, .inl (d2, 630, .inl (fun _ => 0)))] H := hP
  have hD : va_D A [(h0, .inr (4, [.null, .int 0])), (q1, .inl (d2, 630, .inl (fun _ => 0)))] := hD
  have hK : va_K (dC, dI) zC [(d2, .int)] s := hK
  refine W.widen (k := 1) (n := 630) (Nat.le_of_ble_eq_true rfl) (Nat.le_of_ble_eq_true rfl) ?_
  refine va_putF (D := (dC, dI)) (ci := 4) (v := .ref q1) (ty := (.array .int)) (C := zr_4) (T := zt_4) (N := 2) hx hb htb zi_4 zf_4 zk_4 zn_4 hown hK hP hD hS 0 rfl rfl 0 (by decide) (htb _ zw_81) (fun _ h9 => h9) rfl hin rfl (by decide +kernel) rfl rfl (Nat.le_of_ble_eq_true rfl) zd_Ro_init_10 (fun H locs hP hD hS => ?_)
  have hP : va_P (dC, dI) zC [(h0, .inr (4, [.ref q1, .int 0])), (q1, .inl (d2, 630, .inl (fun _ => 0)))] H := hP
  have hD : va_D A [(h0, .inr (4, [.ref q1, .int 0])), (q1, .inl (d2, 630, .inl (fun _ => 0)))] := hD
  refine lv_aload_n hx hb zd_Ro_init_13 rfl (lv_at hl 0 rfl) ?_
  refine lv_iconst (v := 0) hx hb zd_Ro_init_14 (by decide) ?_
  refine va_put (D := (dC, dI)) (ci := 4) (v := .int 0) (ty := .int) (C := zr_4) (T := zt_4) (N := 2) hx hb htb zi_4 zf_4 zk_4 zn_4 hown hK hP hD hS 0 rfl rfl 1 (by decide) (htb _ zw_82) (fun _ h9 => h9) rfl (by decide +kernel) rfl rfl (Nat.le_of_ble_eq_true rfl) zd_Ro_init_15 (fun H locs hP hD hS => ?_)
  have hP : va_P (dC, dI) zC [(h0, .inr (4, [.ref q1, .int 0])), (q1, .inl (d2, 630, .inl (fun _ => 0)))] H := hP
  have hD : va_D A [(h0, .inr (4, [.ref q1, .int 0])), (q1, .inl (d2, 630, .inl (fun _ => 0)))] := hD
  have hP9 := hP.sub (ws' := [(h0, .inr (4, [.ref q1, .int 0])), (q1, .inl (d2, 630, .inl (fun _ => 0)))]) [0, 1] rfl
  have hD9 := hD.sub (ws' := [(h0, .inr (4, [.ref q1, .int 0])), (q1, .inl (d2, 630, .inl (fun _ => 0)))]) [0, 1] (by decide) rfl
  have hK9 := hK.sub (tys' := [(d2, .int)]) [0] rfl
  refine W.widen (k := 1) (n := 630) (Nat.le_of_ble_eq_true rfl) (Nat.le_of_ble_eq_true rfl) ?_
  exact W.vret hx hb hr (fun t ht hW => ⟨⟨(fun _ => 0), rfl, hw, q1, d2, by rw [ht]; exact hP9, va_K.moved hW.alike hK9, hD9⟩, hS.F ht⟩) hS.2.2 zd_Ro_init_18
abbrev zo_Ro_get : Room := { frames := 0, cells := 0, slots := 0, locals := 0 }
abbrev zb_Ro_get (dC : Nat → ClassId) (dI : Nat → Nat → Nat) (A : Nat → Prop) (h0 h0_0 : Nat) (c0_0 : ClassId) (v0_size : Int32) (g0_values : Nat → Int32) (u : Unit) (t : State) : Prop := va_P (dC, dI) zC [(h0, .inr (4, [.ref h0_0, .int v0_size])), (h0_0, .inl (c0_0, 630, .inl g0_values))] t.heap ∧ va_K (dC, dI) zC [(c0_0, .int)] t ∧ va_D A [(h0, .inr (4, [.ref h0_0, .int v0_size])), (h0_0, .inl (c0_0, 630, .inl g0_values))]
set_option maxHeartbeats 4000000 in
set_option maxRecDepth 100000 in
theorem mt_Ro_get (l : Launch) (dC : Nat → ClassId) (dI : Nat → Nat → Nat) (h0 h0_0 sz : Nat) (c0_0 : ClassId) (v0_size : Int32) (g0_values : Nat → Int32) (p0 : Int32) (p1 : Int32) (post : Int32 → Unit → Prop) (hw : wp_Ro_get g0_values p0 p1 post) : Met l zy_Ro_get zs_Ro_get zo_Ro_get (zP dC dI [.ref h0, .int p0, .int p1] sz [(h0, .inr (4, [.ref h0_0, .int v0_size])), (h0_0, .inl (c0_0, 630, .inl g0_values))] [(c0_0, .int)]) (va_Qi (fun (r : Int32) (u : Unit) => post r u) (zb_Ro_get dC dI (va_A [(h0, .inr (4, [.ref h0_0, .int v0_size])), (h0_0, .inl (c0_0, 630, .inl g0_values))] sz) h0 h0_0 c0_0 v0_size g0_values) (va_A [(h0, .inr (4, [.ref h0_0, .int v0_size])), (h0_0, .inl (c0_0, 630, .inl g0_values))] sz)) 0 0 (va_A [(h0, .inr (4, [.ref h0_0, .int v0_size])), (h0_0, .inl (c0_0, 630, .inl g0_values))] sz) := by
  unfold wp_Ro_get at hw
  refine Met.ofW (cc := zc_Ro_get) (maxL := 3) (ret := (some .int)) (by decide) rfl ?_
  intro p e s m args below meth c s₁ B hml hv
  obtain ⟨rfl, hsz, hP, hK, hD0⟩ := hv
  have hx := B.exec
  have hb := B.bytes
  have hr := B.returns
  have hts := atoms_spec (ws := zs_Ro_get) B.pre
  have htb := fun w (h : w ∈ zB) => hts w (List.mem_cons_of_mem _ h)
  have hown : s.vm.findClass zr_4 = some m.cls := findClass_of_methodNamed B.named
  have hlocks := B.notSynchronized
  subst hsz
  have hD := hD0.self (sz := s.heap.size)
  generalize hAe : va_A [(h0, .inr (4, [.ref h0_0, .int v0_size])), (h0_0, .inl (c0_0, 630, .inl g0_values))] s.heap.size = A at hD ⊢
  have hA : ∀ q : Nat, s.heap.size ≤ q → A q := fun q h => by rw [← hAe]; exact Or.inr h
  clear hAe hD0
  have hl := lv_entry ([.ref h0, .int p0, .int p1]) (n := 3) (Nat.le_of_ble_eq_true rfl)
  rw [lg_entry_eq]
  generalize (lg_sl ([.ref h0, .int p0, .int p1]) ++ List.replicate (3 - (lg_sl ([.ref h0, .int p0, .int p1])).length) Slot.unset).toArray = ls at hl ⊢
  have hl : lv_has ls 3 [(0, .ref h0), (1, .int p0), (2, .int p1)] := hl
  obtain ⟨H, hH⟩ : ∃ H, H = s.heap := ⟨_, rfl⟩
  have hS : va_S A s.heap H [] := by rw [hH]; exact va_S.rf
  rw [← hH] at hP ⊢
  refine lv_aload_n hx hb zd_Ro_get_0 rfl (lv_at hl 0 rfl) ?_
  refine va_get (D := (dC, dI)) (ci := 4) (v := .ref h0_0) (C := zr_4) (T := zt_4) (N := 2) hx hb htb zi_4 hown hK hP 0 rfl rfl 0 (by decide) (htb _ zw_81) (fun _ h9 => h9) rfl zd_Ro_get_1 ?_
  refine lv_iload_n hx hb zd_Ro_get_4 rfl (lv_at hl 1 rfl) ?_
  refine lv_bipush (v := 7) hx hb zd_Ro_get_5 (by decide) ?_
  refine lv_imul hx hb zd_Ro_get_7 ?_
  refine lv_topi (fun x1 ex1 => ?_)
  have hw := hw x1 ex1
  refine lv_iload_n hx hb zd_Ro_get_8 rfl (lv_at hl 2 rfl) ?_
  refine lv_iadd hx hb zd_Ro_get_9 ?_
  refine lv_topi (fun x2 ex2 => ?_)
  have hw := hw x2 ex2
  obtain ⟨h3, hw⟩ := hw
  refine va_iald (D := (dC, dI)) hx hb hK hP 1 0 rfl rfl h3 zd_Ro_get_10 ?_
  refine lv_topi (fun x4 ex4 => ?_)
  have hw := hw x4 ex4
  have hP9 := hP.sub (ws' := [(h0, .inr (4, [.ref h0_0, .int v0_size])), (h0_0, .inl (c0_0, 630, .inl g0_values))]) [0, 1] rfl
  have hD9 := hD.sub (ws' := [(h0, .inr (4, [.ref h0_0, .int v0_size])), (h0_0, .inl (c0_0, 630, .inl g0_values))]) [0, 1] (by decide) rfl
  have hK9 := hK.sub (tys' := [(c0_0, .int)]) [0] rfl
  refine W.widen (k := 0) (n := 0) (Nat.le_of_ble_eq_true rfl) (Nat.le_of_ble_eq_true rfl) ?_
  exact W.iret (v := x4) hx hb hr (fun t ht hW => ⟨⟨x4, (), rfl, hw, by rw [ht]; exact hP9, va_K.moved hW.alike hK9, hD9⟩, hS.F ht⟩) hS.2.2 zd_Ro_get_11
abbrev zo_Ro_set : Room := { frames := 0, cells := 0, slots := 0, locals := 0 }
abbrev zb_Ro_set (dC : Nat → ClassId) (dI : Nat → Nat → Nat) (A : Nat → Prop) (h0 h0_0 : Nat) (c0_0 : ClassId) (v0_size : Int32) (u : (Nat → Int32)) (t : State) : Prop := va_P (dC, dI) zC [(h0, .inr (4, [.ref h0_0, .int v0_size])), (h0_0, .inl (c0_0, 630, .inl u))] t.heap ∧ va_K (dC, dI) zC [(c0_0, .int)] t ∧ va_D A [(h0, .inr (4, [.ref h0_0, .int v0_size])), (h0_0, .inl (c0_0, 630, .inl u))]
set_option maxHeartbeats 4000000 in
set_option maxRecDepth 100000 in
theorem mt_Ro_set (l : Launch) (dC : Nat → ClassId) (dI : Nat → Nat → Nat) (h0 h0_0 sz : Nat) (c0_0 : ClassId) (v0_size : Int32) (g0_values : Nat → Int32) (p0 : Int32) (p1 : Int32) (p2 : Int32) (post : ((Nat → Int32)) → Prop) (hw : wp_Ro_set g0_values p0 p1 p2 post) : Met l zy_Ro_set zs_Ro_set zo_Ro_set (zP dC dI [.ref h0, .int p0, .int p1, .int p2] sz [(h0, .inr (4, [.ref h0_0, .int v0_size])), (h0_0, .inl (c0_0, 630, .inl g0_values))] [(c0_0, .int)]) (va_Qv (fun (u : (Nat → Int32)) => post u) (zb_Ro_set dC dI (va_A [(h0, .inr (4, [.ref h0_0, .int v0_size])), (h0_0, .inl (c0_0, 630, .inl g0_values))] sz) h0 h0_0 c0_0 v0_size) (va_A [(h0, .inr (4, [.ref h0_0, .int v0_size])), (h0_0, .inl (c0_0, 630, .inl g0_values))] sz)) 0 0 (va_A [(h0, .inr (4, [.ref h0_0, .int v0_size])), (h0_0, .inl (c0_0, 630, .inl g0_values))] sz) := by
  unfold wp_Ro_set at hw
  refine Met.ofW (cc := zc_Ro_set) (maxL := 4) (ret := none) (by decide) rfl ?_
  intro p e s m args below meth c s₁ B hml hv
  obtain ⟨rfl, hsz, hP, hK, hD0⟩ := hv
  have hx := B.exec
  have hb := B.bytes
  have hr := B.returns
  have hts := atoms_spec (ws := zs_Ro_set) B.pre
  have htb := fun w (h : w ∈ zB) => hts w (List.mem_cons_of_mem _ h)
  have hown : s.vm.findClass zr_4 = some m.cls := findClass_of_methodNamed B.named
  have hlocks := B.notSynchronized
  subst hsz
  have hD := hD0.self (sz := s.heap.size)
  generalize hAe : va_A [(h0, .inr (4, [.ref h0_0, .int v0_size])), (h0_0, .inl (c0_0, 630, .inl g0_values))] s.heap.size = A at hD ⊢
  have hA : ∀ q : Nat, s.heap.size ≤ q → A q := fun q h => by rw [← hAe]; exact Or.inr h
  clear hAe hD0
  have hl := lv_entry ([.ref h0, .int p0, .int p1, .int p2]) (n := 4) (Nat.le_of_ble_eq_true rfl)
  rw [lg_entry_eq]
  generalize (lg_sl ([.ref h0, .int p0, .int p1, .int p2]) ++ List.replicate (4 - (lg_sl ([.ref h0, .int p0, .int p1, .int p2])).length) Slot.unset).toArray = ls at hl ⊢
  have hl : lv_has ls 4 [(0, .ref h0), (1, .int p0), (2, .int p1), (3, .int p2)] := hl
  obtain ⟨H, hH⟩ : ∃ H, H = s.heap := ⟨_, rfl⟩
  have hS : va_S A s.heap H [] := by rw [hH]; exact va_S.rf
  rw [← hH] at hP ⊢
  refine lv_aload_n hx hb zd_Ro_set_0 rfl (lv_at hl 0 rfl) ?_
  refine va_get (D := (dC, dI)) (ci := 4) (v := .ref h0_0) (C := zr_4) (T := zt_4) (N := 2) hx hb htb zi_4 hown hK hP 0 rfl rfl 0 (by decide) (htb _ zw_81) (fun _ h9 => h9) rfl zd_Ro_set_1 ?_
  refine lv_iload_n hx hb zd_Ro_set_4 rfl (lv_at hl 1 rfl) ?_
  refine lv_bipush (v := 7) hx hb zd_Ro_set_5 (by decide) ?_
  refine lv_imul hx hb zd_Ro_set_7 ?_
  refine lv_topi (fun x1 ex1 => ?_)
  have hw := hw x1 ex1
  refine lv_iload_n hx hb zd_Ro_set_8 rfl (lv_at hl 2 rfl) ?_
  refine lv_iadd hx hb zd_Ro_set_9 ?_
  refine lv_topi (fun x2 ex2 => ?_)
  have hw := hw x2 ex2
  refine lv_iload_n hx hb zd_Ro_set_10 rfl (lv_at hl 3 rfl) ?_
  obtain ⟨h3, hw⟩ := hw
  obtain ⟨g4, eg4⟩ : ∃ z : Nat → Int32, z = upd g0_values x2.toNatClampNeg p2 := ⟨_, rfl⟩
  have hw := hw g4 eg4
  refine va_iast (D := (dC, dI)) hx hb hK hP hD hS 1 0 rfl rfl h3 zd_Ro_set_11 (fun H locs hP hD hS => ?_)
  rw [← eg4] at hP hD
  have hP : va_P (dC, dI) zC [(h0, .inr (4, [.ref h0_0, .int v0_size])), (h0_0, .inl (c0_0, 630, .inl g4))] H := hP
  have hD : va_D A [(h0, .inr (4, [.ref h0_0, .int v0_size])), (h0_0, .inl (c0_0, 630, .inl g4))] := hD
  have hP9 := hP.sub (ws' := [(h0, .inr (4, [.ref h0_0, .int v0_size])), (h0_0, .inl (c0_0, 630, .inl g4))]) [0, 1] rfl
  have hD9 := hD.sub (ws' := [(h0, .inr (4, [.ref h0_0, .int v0_size])), (h0_0, .inl (c0_0, 630, .inl g4))]) [0, 1] (by decide) rfl
  have hK9 := hK.sub (tys' := [(c0_0, .int)]) [0] rfl
  refine W.widen (k := 0) (n := 0) (Nat.le_of_ble_eq_true rfl) (Nat.le_of_ble_eq_true rfl) ?_
  exact W.vret hx hb hr (fun t ht hW => ⟨⟨g4, rfl, hw, by rw [ht]; exact hP9, va_K.moved hW.alike hK9, hD9⟩, hS.F ht⟩) hS.2.2 zd_Ro_set_12
abbrev zo_Ta_init : Room := { frames := 1, cells := 1, slots := 300, locals := 20 }
abbrev zb_Ta_init (dC : Nat → ClassId) (dI : Nat → Nat → Nat) (A : Nat → Prop) (h0 : Nat) (u : (Nat → Int32)) (t : State) : Prop := ∃ (qe1 : Nat) (de2 : ClassId), va_P (dC, dI) zC [(h0, .inr (5, [.ref qe1, .int 0])), (qe1, .inl (de2, 300, .inl u))] t.heap ∧ va_K (dC, dI) zC [(de2, .int)] t ∧ va_D A [(h0, .inr (5, [.ref qe1, .int 0])), (qe1, .inl (de2, 300, .inl u))]
set_option maxHeartbeats 4000000 in
set_option maxRecDepth 100000 in
theorem mt_Ta_init (l : Launch) (dC : Nat → ClassId) (dI : Nat → Nat → Nat) (h0 sz : Nat) (post : ((Nat → Int32)) → Prop) (hw : wp_Ta_init post) : Met l zy_Ta_init zs_Ta_init zo_Ta_init (zP dC dI [.ref h0] sz [(h0, .inr (5, [.null, .int 0]))] []) (va_Qv (fun (u : (Nat → Int32)) => post u) (zb_Ta_init dC dI (va_A [(h0, .inr (5, [.null, .int 0]))] sz) h0) (va_A [(h0, .inr (5, [.null, .int 0]))] sz)) 1 300 (va_A [(h0, .inr (5, [.null, .int 0]))] sz) := by
  unfold wp_Ta_init at hw
  refine Met.ofW (cc := zc_Ta_init) (maxL := 1) (ret := none) (by decide) rfl ?_
  intro p e s m args below meth c s₁ B hml hv
  obtain ⟨rfl, hsz, hP, hK, hD0⟩ := hv
  have hx := B.exec
  have hb := B.bytes
  have hr := B.returns
  have hts := atoms_spec (ws := zs_Ta_init) B.pre
  have htb := fun w (h : w ∈ zB) => hts w (List.mem_cons_of_mem _ h)
  have hown : s.vm.findClass zr_5 = some m.cls := findClass_of_methodNamed B.named
  have hlocks := B.notSynchronized
  have hin : meth.name = "<init>" := (name_of_methodNamed B.named B.method).1
  subst hsz
  have hD := hD0.self (sz := s.heap.size)
  generalize hAe : va_A [(h0, .inr (5, [.null, .int 0]))] s.heap.size = A at hD ⊢
  have hA : ∀ q : Nat, s.heap.size ≤ q → A q := fun q h => by rw [← hAe]; exact Or.inr h
  clear hAe hD0
  have hl := lv_entry ([.ref h0]) (n := 1) (Nat.le_of_ble_eq_true rfl)
  rw [lg_entry_eq]
  generalize (lg_sl ([.ref h0]) ++ List.replicate (1 - (lg_sl ([.ref h0])).length) Slot.unset).toArray = ls at hl ⊢
  have hl : lv_has ls 1 [(0, .ref h0)] := hl
  obtain ⟨H, hH⟩ : ∃ H, H = s.heap := ⟨_, rfl⟩
  have hS : va_S A s.heap H [] := by rw [hH]; exact va_S.rf
  rw [← hH] at hP ⊢
  refine lv_aload_n hx hb zd_Ta_init_0 rfl (lv_at hl 0 rfl) ?_
  refine W.objInit hx hb hown (htb _ zw_95) (htb _ zw_25) (htb _ zw_26) rfl (by rw [hml]; exact hl.1) rfl zd_Ta_init_1 (Nat.le_of_ble_eq_true rfl) (Nat.le_of_ble_eq_true rfl) ?_
  refine W.eq (g2 := F0 m 4 ls []) rfl ?_
  refine lv_aload_n hx hb zd_Ta_init_4 rfl (lv_at hl 0 rfl) ?_
  refine lv_sipush (v := 300) hx hb zd_Ta_init_5 (by decide) ?_
  refine va_newa (atype := .int) (a0 := (300, .inl (fun _ => 0))) (N' := 300) (ty := .int) hx hb (htb _ zw_74) rfl hK hP hD hS hA (fun _ => rfl) (by decide) (by decide) (by decide) (Nat.le_of_ble_eq_true rfl) (Nat.le_of_ble_eq_true rfl) zd_Ta_init_8 (fun q1 d2 H hK hP hD hS => ?_)
  have hP : va_P (dC, dI) zC [(h0, .inr (5, [.null, .int 0])), (q1, .inl (d2, 300, .inl (fun _ => 0)))] H := hP
  have hD : va_D A [(h0, .inr (5, [.null, .int 0])), (q1, .inl (d2, 300, .inl (fun _ => 0)))] := hD
  have hK : va_K (dC, dI) zC [(d2, .int)] s := hK
  refine W.widen (k := 1) (n := 300) (Nat.le_of_ble_eq_true rfl) (Nat.le_of_ble_eq_true rfl) ?_
  refine va_putF (D := (dC, dI)) (ci := 5) (v := .ref q1) (ty := (.array .int)) (C := zr_5) (T := zt_5) (N := 2) hx hb htb zi_5 zf_5 zk_5 zn_5 hown hK hP hD hS 0 rfl rfl 0 (by decide) (htb _ zw_96) (fun _ h9 => h9) rfl hin rfl (by decide +kernel) rfl rfl (Nat.le_of_ble_eq_true rfl) zd_Ta_init_10 (fun H locs hP hD hS => ?_)
  have hP : va_P (dC, dI) zC [(h0, .inr (5, [.ref q1, .int 0])), (q1, .inl (d2, 300, .inl (fun _ => 0)))] H := hP
  have hD : va_D A [(h0, .inr (5, [.ref q1, .int 0])), (q1, .inl (d2, 300, .inl (fun _ => 0)))] := hD
  refine lv_aload_n hx hb zd_Ta_init_13 rfl (lv_at hl 0 rfl) ?_
  refine lv_iconst (v := 0) hx hb zd_Ta_init_14 (by decide) ?_
  refine va_put (D := (dC, dI)) (ci := 5) (v := .int 0) (ty := .int) (C := zr_5) (T := zt_5) (N := 2) hx hb htb zi_5 zf_5 zk_5 zn_5 hown hK hP hD hS 0 rfl rfl 1 (by decide) (htb _ zw_97) (fun _ h9 => h9) rfl (by decide +kernel) rfl rfl (Nat.le_of_ble_eq_true rfl) zd_Ta_init_15 (fun H locs hP hD hS => ?_)
  have hP : va_P (dC, dI) zC [(h0, .inr (5, [.ref q1, .int 0])), (q1, .inl (d2, 300, .inl (fun _ => 0)))] H := hP
  have hD : va_D A [(h0, .inr (5, [.ref q1, .int 0])), (q1, .inl (d2, 300, .inl (fun _ => 0)))] := hD
  have hP9 := hP.sub (ws' := [(h0, .inr (5, [.ref q1, .int 0])), (q1, .inl (d2, 300, .inl (fun _ => 0)))]) [0, 1] rfl
  have hD9 := hD.sub (ws' := [(h0, .inr (5, [.ref q1, .int 0])), (q1, .inl (d2, 300, .inl (fun _ => 0)))]) [0, 1] (by decide) rfl
  have hK9 := hK.sub (tys' := [(d2, .int)]) [0] rfl
  refine W.widen (k := 1) (n := 300) (Nat.le_of_ble_eq_true rfl) (Nat.le_of_ble_eq_true rfl) ?_
  exact W.vret hx hb hr (fun t ht hW => ⟨⟨(fun _ => 0), rfl, hw, q1, d2, by rw [ht]; exact hP9, va_K.moved hW.alike hK9, hD9⟩, hS.F ht⟩) hS.2.2 zd_Ta_init_18
abbrev zo_Ta_get : Room := { frames := 0, cells := 0, slots := 0, locals := 0 }
abbrev zb_Ta_get (dC : Nat → ClassId) (dI : Nat → Nat → Nat) (A : Nat → Prop) (h0 h0_0 : Nat) (c0_0 : ClassId) (v0_size : Int32) (g0_values : Nat → Int32) (u : Unit) (t : State) : Prop := va_P (dC, dI) zC [(h0, .inr (5, [.ref h0_0, .int v0_size])), (h0_0, .inl (c0_0, 300, .inl g0_values))] t.heap ∧ va_K (dC, dI) zC [(c0_0, .int)] t ∧ va_D A [(h0, .inr (5, [.ref h0_0, .int v0_size])), (h0_0, .inl (c0_0, 300, .inl g0_values))]
set_option maxHeartbeats 4000000 in
set_option maxRecDepth 100000 in
theorem mt_Ta_get (l : Launch) (dC : Nat → ClassId) (dI : Nat → Nat → Nat) (h0 h0_0 sz : Nat) (c0_0 : ClassId) (v0_size : Int32) (g0_values : Nat → Int32) (p0 : Int32) (p1 : Int32) (post : Int32 → Unit → Prop) (hw : wp_Ta_get g0_values p0 p1 post) : Met l zy_Ta_get zs_Ta_get zo_Ta_get (zP dC dI [.ref h0, .int p0, .int p1] sz [(h0, .inr (5, [.ref h0_0, .int v0_size])), (h0_0, .inl (c0_0, 300, .inl g0_values))] [(c0_0, .int)]) (va_Qi (fun (r : Int32) (u : Unit) => post r u) (zb_Ta_get dC dI (va_A [(h0, .inr (5, [.ref h0_0, .int v0_size])), (h0_0, .inl (c0_0, 300, .inl g0_values))] sz) h0 h0_0 c0_0 v0_size g0_values) (va_A [(h0, .inr (5, [.ref h0_0, .int v0_size])), (h0_0, .inl (c0_0, 300, .inl g0_values))] sz)) 0 0 (va_A [(h0, .inr (5, [.ref h0_0, .int v0_size])), (h0_0, .inl (c0_0, 300, .inl g0_values))] sz) := by
  unfold wp_Ta_get at hw
  refine Met.ofW (cc := zc_Ta_get) (maxL := 3) (ret := (some .int)) (by decide) rfl ?_
  intro p e s m args below meth c s₁ B hml hv
  obtain ⟨rfl, hsz, hP, hK, hD0⟩ := hv
  have hx := B.exec
  have hb := B.bytes
  have hr := B.returns
  have hts := atoms_spec (ws := zs_Ta_get) B.pre
  have htb := fun w (h : w ∈ zB) => hts w (List.mem_cons_of_mem _ h)
  have hown : s.vm.findClass zr_5 = some m.cls := findClass_of_methodNamed B.named
  have hlocks := B.notSynchronized
  subst hsz
  have hD := hD0.self (sz := s.heap.size)
  generalize hAe : va_A [(h0, .inr (5, [.ref h0_0, .int v0_size])), (h0_0, .inl (c0_0, 300, .inl g0_values))] s.heap.size = A at hD ⊢
  have hA : ∀ q : Nat, s.heap.size ≤ q → A q := fun q h => by rw [← hAe]; exact Or.inr h
  clear hAe hD0
  have hl := lv_entry ([.ref h0, .int p0, .int p1]) (n := 3) (Nat.le_of_ble_eq_true rfl)
  rw [lg_entry_eq]
  generalize (lg_sl ([.ref h0, .int p0, .int p1]) ++ List.replicate (3 - (lg_sl ([.ref h0, .int p0, .int p1])).length) Slot.unset).toArray = ls at hl ⊢
  have hl : lv_has ls 3 [(0, .ref h0), (1, .int p0), (2, .int p1)] := hl
  obtain ⟨H, hH⟩ : ∃ H, H = s.heap := ⟨_, rfl⟩
  have hS : va_S A s.heap H [] := by rw [hH]; exact va_S.rf
  rw [← hH] at hP ⊢
  refine lv_aload_n hx hb zd_Ta_get_0 rfl (lv_at hl 0 rfl) ?_
  refine va_get (D := (dC, dI)) (ci := 5) (v := .ref h0_0) (C := zr_5) (T := zt_5) (N := 2) hx hb htb zi_5 hown hK hP 0 rfl rfl 0 (by decide) (htb _ zw_96) (fun _ h9 => h9) rfl zd_Ta_get_1 ?_
  refine lv_iload_n hx hb zd_Ta_get_4 rfl (lv_at hl 1 rfl) ?_
  refine lv_iconst (v := 5) hx hb zd_Ta_get_5 (by decide) ?_
  refine lv_imul hx hb zd_Ta_get_6 ?_
  refine lv_topi (fun x1 ex1 => ?_)
  have hw := hw x1 ex1
  refine lv_iload_n hx hb zd_Ta_get_7 rfl (lv_at hl 2 rfl) ?_
  refine lv_iadd hx hb zd_Ta_get_8 ?_
  refine lv_topi (fun x2 ex2 => ?_)
  have hw := hw x2 ex2
  obtain ⟨h3, hw⟩ := hw
  refine va_iald (D := (dC, dI)) hx hb hK hP 1 0 rfl rfl h3 zd_Ta_get_9 ?_
  refine lv_topi (fun x4 ex4 => ?_)
  have hw := hw x4 ex4
  have hP9 := hP.sub (ws' := [(h0, .inr (5, [.ref h0_0, .int v0_size])), (h0_0, .inl (c0_0, 300, .inl g0_values))]) [0, 1] rfl
  have hD9 := hD.sub (ws' := [(h0, .inr (5, [.ref h0_0, .int v0_size])), (h0_0, .inl (c0_0, 300, .inl g0_values))]) [0, 1] (by decide) rfl
  have hK9 := hK.sub (tys' := [(c0_0, .int)]) [0] rfl
  refine W.widen (k := 0) (n := 0) (Nat.le_of_ble_eq_true rfl) (Nat.le_of_ble_eq_true rfl) ?_
  exact W.iret (v := x4) hx hb hr (fun t ht hW => ⟨⟨x4, (), rfl, hw, by rw [ht]; exact hP9, va_K.moved hW.alike hK9, hD9⟩, hS.F ht⟩) hS.2.2 zd_Ta_get_10
abbrev zo_Ta_lastAddress : Room := { frames := 1, cells := 0, slots := 0, locals := 22 }
abbrev zb_Ta_lastAddress (dC : Nat → ClassId) (dI : Nat → Nat → Nat) (A : Nat → Prop) (h0 h0_0 : Nat) (c0_0 : ClassId) (v0_size : Int32) (g0_values : Nat → Int32) (u : Unit) (t : State) : Prop := va_P (dC, dI) zC [(h0, .inr (5, [.ref h0_0, .int v0_size])), (h0_0, .inl (c0_0, 300, .inl g0_values))] t.heap ∧ va_K (dC, dI) zC [(c0_0, .int)] t ∧ va_D A [(h0, .inr (5, [.ref h0_0, .int v0_size])), (h0_0, .inl (c0_0, 300, .inl g0_values))]
set_option maxHeartbeats 4000000 in
set_option maxRecDepth 100000 in
theorem mt_Ta_lastAddress (l : Launch) (dC : Nat → ClassId) (dI : Nat → Nat → Nat) (h0 h0_0 sz : Nat) (c0_0 : ClassId) (v0_size : Int32) (g0_values : Nat → Int32) (post : Int32 → Unit → Prop) (hw : wp_Ta_lastAddress v0_size g0_values post) : Met l zy_Ta_lastAddress zs_Ta_lastAddress zo_Ta_lastAddress (zP dC dI [.ref h0] sz [(h0, .inr (5, [.ref h0_0, .int v0_size])), (h0_0, .inl (c0_0, 300, .inl g0_values))] [(c0_0, .int)]) (va_Qi (fun (r : Int32) (u : Unit) => post r u) (zb_Ta_lastAddress dC dI (va_A [(h0, .inr (5, [.ref h0_0, .int v0_size])), (h0_0, .inl (c0_0, 300, .inl g0_values))] sz) h0 h0_0 c0_0 v0_size g0_values) (va_A [(h0, .inr (5, [.ref h0_0, .int v0_size])), (h0_0, .inl (c0_0, 300, .inl g0_values))] sz)) 0 0 (va_A [(h0, .inr (5, [.ref h0_0, .int v0_size])), (h0_0, .inl (c0_0, 300, .inl g0_values))] sz) := by
  unfold wp_Ta_lastAddress at hw
  refine Met.ofW (cc := zc_Ta_lastAddress) (maxL := 1) (ret := (some .int)) (by decide) rfl ?_
  intro p e s m args below meth c s₁ B hml hv
  obtain ⟨rfl, hsz, hP, hK, hD0⟩ := hv
  have hx := B.exec
  have hb := B.bytes
  have hr := B.returns
  have hts := atoms_spec (ws := zs_Ta_lastAddress) B.pre
  have htb := fun w (h : w ∈ zB) => hts w (List.mem_cons_of_mem _ h)
  have hown : s.vm.findClass zr_5 = some m.cls := findClass_of_methodNamed B.named
  have hlocks := B.notSynchronized
  subst hsz
  have hD := hD0.self (sz := s.heap.size)
  generalize hAe : va_A [(h0, .inr (5, [.ref h0_0, .int v0_size])), (h0_0, .inl (c0_0, 300, .inl g0_values))] s.heap.size = A at hD ⊢
  have hA : ∀ q : Nat, s.heap.size ≤ q → A q := fun q h => by rw [← hAe]; exact Or.inr h
  clear hAe hD0
  have hl := lv_entry ([.ref h0]) (n := 1) (Nat.le_of_ble_eq_true rfl)
  rw [lg_entry_eq]
  generalize (lg_sl ([.ref h0]) ++ List.replicate (1 - (lg_sl ([.ref h0])).length) Slot.unset).toArray = ls at hl ⊢
  have hl : lv_has ls 1 [(0, .ref h0)] := hl
  obtain ⟨H, hH⟩ : ∃ H, H = s.heap := ⟨_, rfl⟩
  have hS : va_S A s.heap H [] := by rw [hH]; exact va_S.rf
  rw [← hH] at hP ⊢
  refine lv_aload_n hx hb zd_Ta_lastAddress_0 rfl (lv_at hl 0 rfl) ?_
  refine lv_aload_n hx hb zd_Ta_lastAddress_1 rfl (lv_at hl 0 rfl) ?_
  refine va_get (D := (dC, dI)) (ci := 5) (v := .int v0_size) (C := zr_5) (T := zt_5) (N := 2) hx hb htb zi_5 hown hK hP 0 rfl rfl 1 (by decide) (htb _ zw_97) (fun _ h9 => h9) rfl zd_Ta_lastAddress_2 ?_
  refine lv_iconst (v := 1) hx hb zd_Ta_lastAddress_5 (by decide) ?_
  refine lv_isub hx hb zd_Ta_lastAddress_6 ?_
  refine lv_topi (fun x1 ex1 => ?_)
  have hw := hw x1 ex1
  refine lv_iconst (v := 0) hx hb zd_Ta_lastAddress_7 (by decide) ?_
  have hPc := hP.sub (ws' := [(h0, .inr (5, [.ref h0_0, .int v0_size])), (h0_0, .inl (c0_0, 300, .inl g0_values))]) [0, 1] rfl
  have hDc := hD.sub (ws' := [(h0, .inr (5, [.ref h0_0, .int v0_size])), (h0_0, .inl (c0_0, 300, .inl g0_values))]) [0, 1] (by decide) rfl
  have hKc := hK.sub (tys' := [(c0_0, .int)]) [0] rfl
  have hFc := va_free (wc := [(h0, .inr (5, [.ref h0_0, .int v0_size])), (h0_0, .inl (c0_0, 300, .inl g0_values))]) hD hS hA [0, 1] rfl
  refine va_calli (va_runV (As := [.int x1, .int 0]) (rest := []) ⟨hx, hb, hml, hown, htb⟩ (mt_Ta_get l dC dI h0 h0_0 H.size c0_0 v0_size g0_values x1 0 _ hw) (cwV 2 htb (zgV zw_505 zw_506 zw_507 zw_5 zw_508) rfl rfl rfl (by decide +kernel) ⟨(Nat.le_of_ble_eq_true rfl), (Nat.le_of_ble_eq_true rfl)⟩) ⟨zP_blind, va_recv (ci := 5) (q0 := 0) hK hP rfl rfl, zP_pre hPc hKc hDc⟩ rfl rfl hl.1 rfl (lv_room (Nat.le_of_ble_eq_true rfl)) zd_Ta_lastAddress_8 ⟨(Nat.le_of_ble_eq_true rfl), (Nat.le_of_ble_eq_true rfl)⟩) hS (fun q _ h => hFc q h) hFc (fun x3 u2 t H1 locs ht hvm hw hB hz1 hk1 hS => ?_)
  obtain ⟨hP1, hK1, hD1⟩ := hB
  rw [ht] at hP1
  have hK1 := va_K.moved hvm.symm hK1
  obtain ⟨hP, hD⟩ := va_join (wr := []) (w1 := [(h0, .inr (5, [.ref h0_0, .int v0_size])), (h0_0, .inl (c0_0, 300, .inl g0_values))]) hP hD [0, 1] [] rfl rfl (by decide) (by decide) hk1 hFc hP1 hD1
  generalize H1 = H at hP hS ⊢
  have hP : va_P (dC, dI) zC [(h0, .inr (5, [.ref h0_0, .int v0_size])), (h0_0, .inl (c0_0, 300, .inl g0_values))] H := hP
  have hD : va_D A [(h0, .inr (5, [.ref h0_0, .int v0_size])), (h0_0, .inl (c0_0, 300, .inl g0_values))] := hD
  refine W.widen (k := 0) (n := 0) (Nat.le_of_ble_eq_true rfl) (Nat.le_of_ble_eq_true rfl) ?_
  have hP9 := hP.sub (ws' := [(h0, .inr (5, [.ref h0_0, .int v0_size])), (h0_0, .inl (c0_0, 300, .inl g0_values))]) [0, 1] rfl
  have hD9 := hD.sub (ws' := [(h0, .inr (5, [.ref h0_0, .int v0_size])), (h0_0, .inl (c0_0, 300, .inl g0_values))]) [0, 1] (by decide) rfl
  have hK9 := hK.sub (tys' := [(c0_0, .int)]) [0] rfl
  refine W.widen (k := 0) (n := 0) (Nat.le_of_ble_eq_true rfl) (Nat.le_of_ble_eq_true rfl) ?_
  exact W.iret (v := x3) hx hb hr (fun t ht hW => ⟨⟨x3, (), rfl, hw, by rw [ht]; exact hP9, va_K.moved hW.alike hK9, hD9⟩, hS.F ht⟩) hS.2.2 zd_Ta_lastAddress_11
abbrev zo_Ta_append : Room := { frames := 0, cells := 0, slots := 0, locals := 0 }
abbrev zb_Ta_append (dC : Nat → ClassId) (dI : Nat → Nat → Nat) (A : Nat → Prop) (h0 h0_0 : Nat) (c0_0 : ClassId) (u : Int32 × (Nat → Int32)) (t : State) : Prop := va_P (dC, dI) zC [(h0, .inr (5, [.ref h0_0, .int u.1])), (h0_0, .inl (c0_0, 300, .inl u.2))] t.heap ∧ va_K (dC, dI) zC [(c0_0, .int)] t ∧ va_D A [(h0, .inr (5, [.ref h0_0, .int u.1])), (h0_0, .inl (c0_0, 300, .inl u.2))]
set_option maxHeartbeats 4000000 in
set_option maxRecDepth 100000 in
theorem mt_Ta_append (l : Launch) (dC : Nat → ClassId) (dI : Nat → Nat → Nat) (h0 h0_0 sz : Nat) (c0_0 : ClassId) (v0_size : Int32) (g0_values : Nat → Int32) (p0 : Int32) (p1 : Int32) (p2 : Int32) (p3 : Int32) (p4 : Int32) (post : (Int32 × (Nat → Int32)) → Prop) (hw : wp_Ta_append v0_size g0_values p0 p1 p2 p3 p4 post) : Met l zy_Ta_append zs_Ta_append zo_Ta_append (zP dC dI [.ref h0, .int p0, .int p1, .int p2, .int p3, .int p4] sz [(h0, .inr (5, [.ref h0_0, .int v0_size])), (h0_0, .inl (c0_0, 300, .inl g0_values))] [(c0_0, .int)]) (va_Qv (fun (u : Int32 × (Nat → Int32)) => post u) (zb_Ta_append dC dI (va_A [(h0, .inr (5, [.ref h0_0, .int v0_size])), (h0_0, .inl (c0_0, 300, .inl g0_values))] sz) h0 h0_0 c0_0) (va_A [(h0, .inr (5, [.ref h0_0, .int v0_size])), (h0_0, .inl (c0_0, 300, .inl g0_values))] sz)) 0 0 (va_A [(h0, .inr (5, [.ref h0_0, .int v0_size])), (h0_0, .inl (c0_0, 300, .inl g0_values))] sz) := by
  unfold wp_Ta_append at hw
  refine Met.ofW (cc := zc_Ta_append) (maxL := 7) (ret := none) (by decide) rfl ?_
  intro p e s m args below meth c s₁ B hml hv
  obtain ⟨rfl, hsz, hP, hK, hD0⟩ := hv
  have hx := B.exec
  have hb := B.bytes
  have hr := B.returns
  have hts := atoms_spec (ws := zs_Ta_append) B.pre
  have htb := fun w (h : w ∈ zB) => hts w (List.mem_cons_of_mem _ h)
  have hown : s.vm.findClass zr_5 = some m.cls := findClass_of_methodNamed B.named
  have hlocks := B.notSynchronized
  subst hsz
  have hD := hD0.self (sz := s.heap.size)
  generalize hAe : va_A [(h0, .inr (5, [.ref h0_0, .int v0_size])), (h0_0, .inl (c0_0, 300, .inl g0_values))] s.heap.size = A at hD ⊢
  have hA : ∀ q : Nat, s.heap.size ≤ q → A q := fun q h => by rw [← hAe]; exact Or.inr h
  clear hAe hD0
  have hl := lv_entry ([.ref h0, .int p0, .int p1, .int p2, .int p3, .int p4]) (n := 7) (Nat.le_of_ble_eq_true rfl)
  rw [lg_entry_eq]
  generalize (lg_sl ([.ref h0, .int p0, .int p1, .int p2, .int p3, .int p4]) ++ List.replicate (7 - (lg_sl ([.ref h0, .int p0, .int p1, .int p2, .int p3, .int p4])).length) Slot.unset).toArray = ls at hl ⊢
  have hl : lv_has ls 7 [(0, .ref h0), (1, .int p0), (2, .int p1), (3, .int p2), (4, .int p3), (5, .int p4)] := hl
  obtain ⟨H, hH⟩ : ∃ H, H = s.heap := ⟨_, rfl⟩
  have hS : va_S A s.heap H [] := by rw [hH]; exact va_S.rf
  rw [← hH] at hP ⊢
  refine lv_aload_n hx hb zd_Ta_append_0 rfl (lv_at hl 0 rfl) ?_
  refine va_get (D := (dC, dI)) (ci := 5) (v := .int v0_size) (C := zr_5) (T := zt_5) (N := 2) hx hb htb zi_5 hown hK hP 0 rfl rfl 1 (by decide) (htb _ zw_97) (fun _ h9 => h9) rfl zd_Ta_append_1 ?_
  refine lv_iconst (v := 5) hx hb zd_Ta_append_4 (by decide) ?_
  refine lv_imul hx hb zd_Ta_append_5 ?_
  refine lv_topi (fun x1 ex1 => ?_)
  have hw := hw x1 ex1
  refine lv_istore (i := 6) (lv' := [(6, .int x1), (0, .ref h0), (1, .int p0), (2, .int p1), (3, .int p2), (4, .int p3), (5, .int p4)]) hx hb zd_Ta_append_6 hl (by decide) rfl (fun ls hl => ?_)
  refine lv_aload_n hx hb zd_Ta_append_8 rfl (lv_at hl 1 rfl) ?_
  refine va_get (D := (dC, dI)) (ci := 5) (v := .ref h0_0) (C := zr_5) (T := zt_5) (N := 2) hx hb htb zi_5 hown hK hP 0 rfl rfl 0 (by decide) (htb _ zw_96) (fun _ h9 => h9) rfl zd_Ta_append_9 ?_
  refine lv_iload hx hb zd_Ta_append_12 (lv_at hl 0 rfl) ?_
  refine lv_iconst (v := 0) hx hb zd_Ta_append_14 (by decide) ?_
  refine lv_iadd hx hb zd_Ta_append_15 ?_
  refine lv_topi (fun x2 ex2 => ?_)
  have hw := hw x2 ex2
  refine lv_iload_n hx hb zd_Ta_append_16 rfl (lv_at hl 2 rfl) ?_
  obtain ⟨h3, hw⟩ := hw
  obtain ⟨g4, eg4⟩ : ∃ z : Nat → Int32, z = upd g0_values x2.toNatClampNeg p0 := ⟨_, rfl⟩
  have hw := hw g4 eg4
  refine va_iast (D := (dC, dI)) hx hb hK hP hD hS 1 0 rfl rfl h3 zd_Ta_append_17 (fun H locs hP hD hS => ?_)
  rw [← eg4] at hP hD
  have hP : va_P (dC, dI) zC [(h0, .inr (5, [.ref h0_0, .int v0_size])), (h0_0, .inl (c0_0, 300, .inl g4))] H := hP
  have hD : va_D A [(h0, .inr (5, [.ref h0_0, .int v0_size])), (h0_0, .inl (c0_0, 300, .inl g4))] := hD
  refine lv_aload_n hx hb zd_Ta_append_18 rfl (lv_at hl 1 rfl) ?_
  refine va_get (D := (dC, dI)) (ci := 5) (v := .ref h0_0) (C := zr_5) (T := zt_5) (N := 2) hx hb htb zi_5 hown hK hP 0 rfl rfl 0 (by decide) (htb _ zw_96) (fun _ h9 => h9) rfl zd_Ta_append_19 ?_
  refine lv_iload hx hb zd_Ta_append_22 (lv_at hl 0 rfl) ?_
  refine lv_iconst (v := 1) hx hb zd_Ta_append_24 (by decide) ?_
  refine lv_iadd hx hb zd_Ta_append_25 ?_
  refine lv_topi (fun x5 ex5 => ?_)
  have hw := hw x5 ex5
  refine lv_iload_n hx hb zd_Ta_append_26 rfl (lv_at hl 3 rfl) ?_
  obtain ⟨h6, hw⟩ := hw
  obtain ⟨g7, eg7⟩ : ∃ z : Nat → Int32, z = upd g4 x5.toNatClampNeg p1 := ⟨_, rfl⟩
  have hw := hw g7 eg7
  refine va_iast (D := (dC, dI)) hx hb hK hP hD hS 1 0 rfl rfl h6 zd_Ta_append_27 (fun H locs hP hD hS => ?_)
  rw [← eg7] at hP hD
  have hP : va_P (dC, dI) zC [(h0, .inr (5, [.ref h0_0, .int v0_size])), (h0_0, .inl (c0_0, 300, .inl g7))] H := hP
  have hD : va_D A [(h0, .inr (5, [.ref h0_0, .int v0_size])), (h0_0, .inl (c0_0, 300, .inl g7))] := hD
  refine lv_aload_n hx hb zd_Ta_append_28 rfl (lv_at hl 1 rfl) ?_
  refine va_get (D := (dC, dI)) (ci := 5) (v := .ref h0_0) (C := zr_5) (T := zt_5) (N := 2) hx hb htb zi_5 hown hK hP 0 rfl rfl 0 (by decide) (htb _ zw_96) (fun _ h9 => h9) rfl zd_Ta_append_29 ?_
  refine lv_iload hx hb zd_Ta_append_32 (lv_at hl 0 rfl) ?_
  refine lv_iconst (v := 2) hx hb zd_Ta_append_34 (by decide) ?_
  refine lv_iadd hx hb zd_Ta_append_35 ?_
  refine lv_topi (fun x8 ex8 => ?_)
  have hw := hw x8 ex8
  refine lv_iload_n hx hb zd_Ta_append_36 rfl (lv_at hl 4 rfl) ?_
  obtain ⟨h9, hw⟩ := hw
  obtain ⟨g10, eg10⟩ : ∃ z : Nat → Int32, z = upd g7 x8.toNatClampNeg p2 := ⟨_, rfl⟩
  have hw := hw g10 eg10
  refine va_iast (D := (dC, dI)) hx hb hK hP hD hS 1 0 rfl rfl h9 zd_Ta_append_37 (fun H locs hP hD hS => ?_)
  rw [← eg10] at hP hD
  have hP : va_P (dC, dI) zC [(h0, .inr (5, [.ref h0_0, .int v0_size])), (h0_0, .inl (c0_0, 300, .inl g10))] H := hP
  have hD : va_D A [(h0, .inr (5, [.ref h0_0, .int v0_size])), (h0_0, .inl (c0_0, 300, .inl g10))] := hD
  refine lv_aload_n hx hb zd_Ta_append_38 rfl (lv_at hl 1 rfl) ?_
  refine va_get (D := (dC, dI)) (ci := 5) (v := .ref h0_0) (C := zr_5) (T := zt_5) (N := 2) hx hb htb zi_5 hown hK hP 0 rfl rfl 0 (by decide) (htb _ zw_96) (fun _ h9 => h9) rfl zd_Ta_append_39 ?_
  refine lv_iload hx hb zd_Ta_append_42 (lv_at hl 0 rfl) ?_
  refine lv_iconst (v := 3) hx hb zd_Ta_append_44 (by decide) ?_
  refine lv_iadd hx hb zd_Ta_append_45 ?_
  refine lv_topi (fun x11 ex11 => ?_)
  have hw := hw x11 ex11
  refine lv_iload hx hb zd_Ta_append_46 (lv_at hl 5 rfl) ?_
  obtain ⟨h12, hw⟩ := hw
  obtain ⟨g13, eg13⟩ : ∃ z : Nat → Int32, z = upd g10 x11.toNatClampNeg p3 := ⟨_, rfl⟩
  have hw := hw g13 eg13
  refine va_iast (D := (dC, dI)) hx hb hK hP hD hS 1 0 rfl rfl h12 zd_Ta_append_48 (fun H locs hP hD hS => ?_)
  rw [← eg13] at hP hD
  have hP : va_P (dC, dI) zC [(h0, .inr (5, [.ref h0_0, .int v0_size])), (h0_0, .inl (c0_0, 300, .inl g13))] H := hP
  have hD : va_D A [(h0, .inr (5, [.ref h0_0, .int v0_size])), (h0_0, .inl (c0_0, 300, .inl g13))] := hD
  refine lv_aload_n hx hb zd_Ta_append_49 rfl (lv_at hl 1 rfl) ?_
  refine va_get (D := (dC, dI)) (ci := 5) (v := .ref h0_0) (C := zr_5) (T := zt_5) (N := 2) hx hb htb zi_5 hown hK hP 0 rfl rfl 0 (by decide) (htb _ zw_96) (fun _ h9 => h9) rfl zd_Ta_append_50 ?_
  refine lv_iload hx hb zd_Ta_append_53 (lv_at hl 0 rfl) ?_
  refine lv_iconst (v := 4) hx hb zd_Ta_append_55 (by decide) ?_
  refine lv_iadd hx hb zd_Ta_append_56 ?_
  refine lv_topi (fun x14 ex14 => ?_)
  have hw := hw x14 ex14
  refine lv_iload hx hb zd_Ta_append_57 (lv_at hl 6 rfl) ?_
  obtain ⟨h15, hw⟩ := hw
  obtain ⟨g16, eg16⟩ : ∃ z : Nat → Int32, z = upd g13 x14.toNatClampNeg p4 := ⟨_, rfl⟩
  have hw := hw g16 eg16
  refine va_iast (D := (dC, dI)) hx hb hK hP hD hS 1 0 rfl rfl h15 zd_Ta_append_59 (fun H locs hP hD hS => ?_)
  rw [← eg16] at hP hD
  have hP : va_P (dC, dI) zC [(h0, .inr (5, [.ref h0_0, .int v0_size])), (h0_0, .inl (c0_0, 300, .inl g16))] H := hP
  have hD : va_D A [(h0, .inr (5, [.ref h0_0, .int v0_size])), (h0_0, .inl (c0_0, 300, .inl g16))] := hD
  refine lv_aload_n hx hb zd_Ta_append_60 rfl (lv_at hl 1 rfl) ?_
  refine lv_dup hx hb zd_Ta_append_61 rfl ?_
  refine va_get (D := (dC, dI)) (ci := 5) (v := .int v0_size) (C := zr_5) (T := zt_5) (N := 2) hx hb htb zi_5 hown hK hP 0 rfl rfl 1 (by decide) (htb _ zw_97) (fun _ h9 => h9) rfl zd_Ta_append_62 ?_
  refine lv_iconst (v := 1) hx hb zd_Ta_append_65 (by decide) ?_
  refine lv_iadd hx hb zd_Ta_append_66 ?_
  refine lv_topi (fun x17 ex17 => ?_)
  have hw := hw x17 ex17
  refine va_put (D := (dC, dI)) (ci := 5) (v := .int x17) (ty := .int) (C := zr_5) (T := zt_5) (N := 2) hx hb htb zi_5 zf_5 zk_5 zn_5 hown hK hP hD hS 0 rfl rfl 1 (by decide) (htb _ zw_97) (fun _ h9 => h9) rfl (by decide +kernel) rfl rfl (Nat.le_of_ble_eq_true rfl) zd_Ta_append_67 (fun H locs hP hD hS => ?_)
  have hP : va_P (dC, dI) zC [(h0, .inr (5, [.ref h0_0, .int x17])), (h0_0, .inl (c0_0, 300, .inl g16))] H := hP
  have hD : va_D A [(h0, .inr (5, [.ref h0_0, .int x17])), (h0_0, .inl (c0_0, 300, .inl g16))] := hD
  have hP9 := hP.sub (ws' := [(h0, .inr (5, [.ref h0_0, .int x17])), (h0_0, .inl (c0_0, 300, .inl g16))]) [0, 1] rfl
  have hD9 := hD.sub (ws' := [(h0, .inr (5, [.ref h0_0, .int x17])), (h0_0, .inl (c0_0, 300, .inl g16))]) [0, 1] (by decide) rfl
  have hK9 := hK.sub (tys' := [(c0_0, .int)]) [0] rfl
  refine W.widen (k := 0) (n := 0) (Nat.le_of_ble_eq_true rfl) (Nat.le_of_ble_eq_true rfl) ?_
  exact W.vret hx hb hr (fun t ht hW => ⟨⟨(x17, g16), rfl, hw, by rw [ht]; exact hP9, va_K.moved hW.alike hK9, hD9⟩, hS.F ht⟩) hS.2.2 zd_Ta_append_70
