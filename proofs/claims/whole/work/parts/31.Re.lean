abbrev zo_Re_init : Room := { frames := 1, cells := 0, slots := 0, locals := 20 }
abbrev zb_Re_init (dC : Nat → ClassId) (dI : Nat → Nat → Nat) (A : Nat → Prop) (h1 h1_0 h0 : Nat) (c1_0 : ClassId) (v1_size : Int32) (g1_values : Nat → Int32) (u : Unit) (t : State) : Prop := va_P (dC, dI) zC [(h1, .inr (0, [.ref h1_0, .int v1_size])), (h1_0, .inl (c1_0, 600, .inl g1_values)), (h0, .inr (3, [.ref h1, .int 0]))] t.heap ∧ va_K (dC, dI) zC [(c1_0, .int)] t ∧ va_D A [(h1, .inr (0, [.ref h1_0, .int v1_size])), (h1_0, .inl (c1_0, 600, .inl g1_values)), (h0, .inr (3, [.ref h1, .int 0]))]
set_option maxHeartbeats 4000000 in
set_option maxRecDepth 100000 in
theorem mt_Re_init (l : Launch) (dC : Nat → ClassId) (dI : Nat → Nat → Nat) (h1 h1_0 h0 sz : Nat) (c1_0 : ClassId) (v1_size : Int32) (g1_values : Nat → Int32) (post : Unit → Prop) (hw : wp_Re_init post) : Met l zy_Re_init zs_Re_init zo_Re_init (zP dC dI [.ref h0, .ref h1] sz [(h1, .inr (0, [.ref h1_0, .int v1_size])), (h1_0, .inl (c1_0, 600, .inl g1_values)), (h0, .inr (3, [.null, .int 0]))] [(c1_0, .int)]) (va_Qv (fun (u : Unit) => post u) (zb_Re_init dC dI (va_A [(h1, .inr (0, [.ref h1_0, .int v1_size])), (h1_0, .inl (c1_0, 600, .inl g1_values)), (h0, .inr (3, [.null, .int 0]))] sz) h1 h1_0 h0 c1_0 v1_size g1_values) (va_A [(h1, .inr (0, [.ref h1_0, .int v1_size])), (h1_0, .inl (c1_0, 600, .inl g1_values)), (h0, .inr (3, [.null, .int 0]))] sz)) 0 0 (va_A [(h1, .inr (0, [.ref h1_0, .int v1_size])), (h1_0, .inl (c1_0, 600, .inl g1_values)), (h0, .inr (3, [.null, .int 0]))] sz) := by
  unfold wp_Re_init at hw
  refine Met.ofW (cc := zc_Re_init) (maxL := 2) (ret := none) (by decide) rfl ?_
  intro p e s m args below meth c s₁ B hml hv
  obtain ⟨rfl, hsz, hP, hK, hD0⟩ := hv
  have hx := B.exec
  have hb := B.bytes
  have hr := B.returns
  have hts := atoms_spec (ws := zs_Re_init) B.pre
  have htb := fun w (h : w ∈ zB) => hts w (List.mem_cons_of_mem _ h)
  have hown : s.vm.findClass zr_3 = some m.cls := findClass_of_methodNamed B.named
  have hlocks := B.notSynchronized
  have hin : meth.name = "<init>" := (name_of_methodNamed B.named B.method).1
  subst hsz
  have hD := hD0.self (sz := s.heap.size)
  generalize hAe : va_A [(h1, .inr (0, [.ref h1_0, .int v1_size])), (h1_0, .inl (c1_0, 600, .inl g1_values)), (h0, .inr (3, [.null, .int 0]))] s.heap.size = A at hD ⊢
  have hA : ∀ q : Nat, s.heap.size ≤ q → A q := fun q h => by rw [← hAe]; exact Or.inr h
  clear hAe hD0
  have hl := lv_entry ([.ref h0, .ref h1]) (n := 2) (Nat.le_of_ble_eq_true rfl)
  rw [lg_entry_eq]
  generalize (lg_sl ([.ref h0, .ref h1]) ++ List.replicate (2 - (lg_sl ([.ref h0, .ref h1])).length) Slot.unset).toArray = ls at hl ⊢
  have hl : lv_has ls 2 [(0, .ref h0), (1, .ref h1)] := hl
  obtain ⟨H, hH⟩ : ∃ H, H = s.heap := ⟨_, rfl⟩
  have hS : va_S A s.heap H [] := by rw [hH]; exact va_S.rf
  rw [← hH] at hP ⊢
  refine lv_aload_n hx hb zd_Re_init_0 rfl (lv_at hl 0 rfl) ?_
  refine W.objInit hx hb hown (htb _ zw_261) (htb _ zw_25) (htb _ zw_26) rfl (by rw [hml]; exact hl.1) rfl zd_Re_init_1 (Nat.le_of_ble_eq_true rfl) (Nat.le_of_ble_eq_true rfl) ?_
  refine W.eq (g2 := F0 m 4 ls []) rfl ?_
  refine lv_aload_n hx hb zd_Re_init_4 rfl (lv_at hl 0 rfl) ?_
  refine lv_iconst (v := 0) hx hb zd_Re_init_5 (by decide) ?_
  refine va_put (D := (dC, dI)) (ci := 3) (v := .int 0) (ty := .int) (C := zr_3) (T := zt_3) (N := 2) hx hb htb zi_3 zf_3 zk_3 zn_3 hown hK hP hD hS 2 rfl rfl 1 (by decide) (htb _ zw_263) (fun _ h9 => h9) rfl (by decide +kernel) rfl rfl (Nat.le_of_ble_eq_true rfl) zd_Re_init_6 (fun H locs hP hD hS => ?_)
  have hP : va_P (dC, dI) zC [(h1, .inr (0, [.ref h1_0, .int v1_size])), (h1_0, .inl (c1_0, 600, .inl g1_values)), (h0, .inr (3, [.null, .int 0]))] H := hP
  have hD : va_D A [(h1, .inr (0, [.ref h1_0, .int v1_size])), (h1_0, .inl (c1_0, 600, .inl g1_values)), (h0, .inr (3, [.null, .int 0]))] := hD
  refine lv_aload_n hx hb zd_Re_init_9 rfl (lv_at hl 0 rfl) ?_
  refine lv_aload_n hx hb zd_Re_init_10 rfl (lv_at hl 1 rfl) ?_
  refine va_putF (D := (dC, dI)) (ci := 3) (v := .ref h1) (ty := (.object "LinePrograms$Bytes")) (C := zr_3) (T := zt_3) (N := 2) hx hb htb zi_3 zf_3 zk_3 zn_3 hown hK hP hD hS 2 rfl rfl 0 (by decide) (htb _ zw_262) (fun _ h9 => h9) rfl hin rfl (by decide +kernel) rfl rfl (Nat.le_of_ble_eq_true rfl) zd_Re_init_11 (fun H locs hP hD hS => ?_)
  have hP : va_P (dC, dI) zC [(h1, .inr (0, [.ref h1_0, .int v1_size])), (h1_0, .inl (c1_0, 600, .inl g1_values)), (h0, .inr (3, [.ref h1, .int 0]))] H := hP
  have hD : va_D A [(h1, .inr (0, [.ref h1_0, .int v1_size])), (h1_0, .inl (c1_0, 600, .inl g1_values)), (h0, .inr (3, [.ref h1, .int 0]))] := hD
  have hP9 := hP.sub (ws' := [(h1, .inr (0, [.ref h1_0, .int v1_size])), (h1_0, .inl (c1_0, 600, .inl g1_values)), (h0, .inr (3, [.ref h1, .int 0]))]) [0, 1, 2] rfl
  have hD9 := hD.sub (ws' := [(h1, .inr (0, [.ref h1_0, .int v1_size])), (h1_0, .inl (c1_0, 600, .inl g1_values)), (h0, .inr (3, [.ref h1, .int 0]))]) [0, 1, 2] (by decide) rfl
  have hK9 := hK.sub (tys' := [(c1_0, .int)]) [0] rfl
  refine W.widen (k := 0) (n := 0) (Nat.le_of_ble_eq_true rfl) (Nat.le_of_ble_eq_true rfl) ?_
  exact W.vret hx hb hr (fun t ht hW => ⟨⟨(), rfl, hw, by rw [ht]; exact hP9, va_K.moved hW.alike hK9, hD9⟩, hS.F ht⟩) hS.2.2 zd_Re_init_14
abbrev zo_Re_bytesLeft : Room := { frames := 0, cells := 0, slots := 0, locals := 0 }
abbrev zb_Re_bytesLeft (dC : Nat → ClassId) (dI : Nat → Nat → Nat) (A : Nat → Prop) (h0 h0_0 h0_0_0 : Nat) (c0_0_0 : ClassId) (v0_at : Int32) (v0_0_size : Int32) (g0_0_values : Nat → Int32) (u : Unit) (t : State) : Prop := va_P (dC, dI) zC [(h0, .inr (3, [.ref h0_0, .int v0_at])), (h0_0, .inr (0, [.ref h0_0_0, .int v0_0_size])), (h0_0_0, .inl (c0_0_0, 600, .inl g0_0_values))] t.heap ∧ va_K (dC, dI) zC [(c0_0_0, .int)] t ∧ va_D A [(h0, .inr (3, [.ref h0_0, .int v0_at])), (h0_0, .inr (0, [.ref h0_0_0, .int v0_0_size])), (h0_0_0, .inl (c0_0_0, 600, .inl g0_0_values))]
set_option maxHeartbeats 4000000 in
set_option maxRecDepth 100000 in
theorem mt_Re_bytesLeft (l : Launch) (dC : Nat → ClassId) (dI : Nat → Nat → Nat) (h0 h0_0 h0_0_0 sz : Nat) (c0_0_0 : ClassId) (v0_at : Int32) (v0_0_size : Int32) (g0_0_values : Nat → Int32) (post : Int32 → Unit → Prop) (hw : wp_Re_bytesLeft v0_at v0_0_size post) : Met l zy_Re_bytesLeft zs_Re_bytesLeft zo_Re_bytesLeft (zP dC dI [.ref h0] sz [(h0, .inr (3, [.ref h0_0, .int v0_at])), (h0_0, .inr (0, [.ref h0_0_0, .int v0_0_size])), (h0_0_0, .inl (c0_0_0, 600, .inl g0_0_values))] [(c0_0_0, .int)]) (va_Qi (fun (r : Int32) (u : Unit) => post r u) (zb_Re_bytesLeft dC dI (va_A [(h0, .inr (3, [.ref h0_0, .int v0_at])), (h0_0, .inr (0, [.ref h0_0_0, .int v0_0_size])), (h0_0_0, .inl (c0_0_0, 600, .inl g0_0_values))] sz) h0 h0_0 h0_0_0 c0_0_0 v0_at v0_0_size g0_0_values) (va_A [(h0, .inr (3, [.ref h0_0, .int v0_at])), (h0_0, .inr (0, [.ref h0_0_0, .int v0_0_size])), (h0_0_0, .inl (c0_0_0, 600, .inl g0_0_values))] sz)) 0 0 (va_A [(h0, .inr (3, [.ref h0_0, .int v0_at])), (h0_0, .inr (0, [.ref h0_0_0, .int v0_0_size])), (h0_0_0, .inl (c0_0_0, 600, .inl g0_0_values))] sz) := by
  unfold wp_Re_bytesLeft at hw
  refine Met.ofW (cc := zc_Re_bytesLeft) (maxL := 1) (ret := (some .int)) (by decide) rfl ?_
  intro p e s m args below meth c s₁ B hml hv
  obtain ⟨rfl, hsz, hP, hK, hD0⟩ := hv
  have hx := B.exec
  have hb := B.bytes
  have hr := B.returns
  have hts := atoms_spec (ws := zs_Re_bytesLeft) B.pre
  have htb := fun w (h : w ∈ zB) => hts w (List.mem_cons_of_mem _ h)
  have hown : s.vm.findClass zr_3 = some m.cls := findClass_of_methodNamed B.named
  have hlocks := B.notSynchronized
  subst hsz
  have hD := hD0.self (sz := s.heap.size)
  generalize hAe : va_A [(h0, .inr (3, [.ref h0_0, .int v0_at])), (h0_0, .inr (0, [.ref h0_0_0, .int v0_0_size])), (h0_0_0, .inl (c0_0_0, 600, .inl g0_0_values))] s.heap.size = A at hD ⊢
  have hA : ∀ q : Nat, s.heap.size ≤ q → A q := fun q h => by rw [← hAe]; exact Or.inr h
  clear hAe hD0
  have hl := lv_entry ([.ref h0]) (n := 1) (Nat.le_of_ble_eq_true rfl)
  rw [lg_entry_eq]
  generalize (lg_sl ([.ref h0]) ++ List.replicate (1 - (lg_sl ([.ref h0])).length) Slot.unset).toArray = ls at hl ⊢
  have hl : lv_has ls 1 [(0, .ref h0)] := hl
  obtain ⟨H, hH⟩ : ∃ H, H = s.heap := ⟨_, rfl⟩
  have hS : va_S A s.heap H [] := by rw [hH]; exact va_S.rf
  rw [← hH] at hP ⊢
  refine lv_aload_n hx hb zd_Re_bytesLeft_0 rfl (lv_at hl 0 rfl) ?_
  refine va_get (D := (dC, dI)) (ci := 3) (v := .ref h0_0) (C := zr_3) (T := zt_3) (N := 2) hx hb htb zi_3 hown hK hP 0 rfl rfl 0 (by decide) (htb _ zw_262) (fun _ h9 => h9) rfl zd_Re_bytesLeft_1 ?_
  refine va_get (D := (dC, dI)) (ci := 0) (v := .int v0_0_size) (C := zr_0) (T := zt_0) (N := 2) hx hb htb zi_0 hown hK hP 1 rfl rfl 1 (by decide) (htb _ zw_67) (fun _ h9 => h9) rfl zd_Re_bytesLeft_4 ?_
  refine lv_aload_n hx hb zd_Re_bytesLeft_7 rfl (lv_at hl 0 rfl) ?_
  refine va_get (D := (dC, dI)) (ci := 3) (v := .int v0_at) (C := zr_3) (T := zt_3) (N := 2) hx hb htb zi_3 hown hK hP 0 rfl rfl 1 (by decide) (htb _ zw_263) (fun _ h9 => h9) rfl zd_Re_bytesLeft_8 ?_
  refine lv_isub hx hb zd_Re_bytesLeft_11 ?_
  refine lv_topi (fun x1 ex1 => ?_)
  have hw := hw x1 ex1
  have hP9 := hP.sub (ws' := [(h0, .inr (3, [.ref h0_0, .int v0_at])), (h0_0, .inr (0, [.ref h0_0_0, .int v0_0_size])), (h0_0_0, .inl (c0_0_0, 600, .inl g0_0_values))]) [0, 1, 2] rfl
  have hD9 := hD.sub (ws' := [(h0, .inr (3, [.ref h0_0, .int v0_at])), (h0_0, .inr (0, [.ref h0_0_0, .int v0_0_size])), (h0_0_0, .inl (c0_0_0, 600, .inl g0_0_values))]) [0, 1, 2] (by decide) rfl
  have hK9 := hK.sub (tys' := [(c0_0_0, .int)]) [0] rfl
  refine W.widen (k := 0) (n := 0) (Nat.le_of_ble_eq_true rfl) (Nat.le_of_ble_eq_true rfl) ?_
  exact W.iret (v := x1) hx hb hr (fun t ht hW => ⟨⟨x1, (), rfl, hw, by rw [ht]; exact hP9, va_K.moved hW.alike hK9, hD9⟩, hS.F ht⟩) hS.2.2 zd_Re_bytesLeft_12
abbrev zo_Re_nextByte : Room := { frames := 6, cells := 1, slots := 6, locals := 90 }
abbrev zb_Re_nextByte (dC : Nat → ClassId) (dI : Nat → Nat → Nat) (A : Nat → Prop) (h0 h0_0 h0_0_0 : Nat) (c0_0_0 : ClassId) (v0_0_size : Int32) (g0_0_values : Nat → Int32) (u : Int32) (t : State) : Prop := va_P (dC, dI) zC [(h0, .inr (3, [.ref h0_0, .int u])), (h0_0, .inr (0, [.ref h0_0_0, .int v0_0_size])), (h0_0_0, .inl (c0_0_0, 600, .inl g0_0_values))] t.heap ∧ va_K (dC, dI) zC [(c0_0_0, .int)] t ∧ va_D A [(h0, .inr (3, [.ref h0_0, .int u])), (h0_0, .inr (0, [.ref h0_0_0, .int v0_0_size])), (h0_0_0, .inl (c0_0_0, 600, .inl g0_0_values))]
abbrev zx_Re_nextByte (dC : Nat → ClassId) (dI : Nat → Nat → Nat) (A : Nat → Prop) (h0 h0_0 h0_0_0 : Nat) (c0_0_0 : ClassId) (v0_0_size : Int32) (g0_0_values : Nat → Int32) (E : String) (u : Nat × Int32) (t : State) : Prop := E = zE u.1 ∧ zb_Re_nextByte dC dI A h0 h0_0 h0_0_0 c0_0_0 v0_0_size g0_0_values u.2 t
set_option maxHeartbeats 4000000 in
set_option maxRecDepth 100000 in
theorem mt_Re_nextByte (l : Launch) (hl9 : l.stackTraces = false) (dC : Nat → ClassId) (dI : Nat → Nat → Nat) (sa : Nat → Nat) (h0 h0_0 h0_0_0 sz : Nat) (c0_0_0 : ClassId) (v0_at : Int32) (v0_0_size : Int32) (g0_0_values : Nat → Int32) (post : Int32 → Int32 → Prop) (postX : Nat × Int32 → Prop) (hw : wp_Re_nextByte v0_at v0_0_size g0_0_values post postX) : tw_Met l zy_Re_nextByte zs_Re_nextByte zo_Re_nextByte (zPx dC dI sa [.ref h0] sz [(h0, .inr (3, [.ref h0_0, .int v0_at])), (h0_0, .inr (0, [.ref h0_0_0, .int v0_0_size])), (h0_0_0, .inl (c0_0_0, 600, .inl g0_0_values))] [(c0_0_0, .int)]) (va_Qi (fun (r : Int32) (u : Int32) => post r u) (zb_Re_nextByte dC dI (va_A [(h0, .inr (3, [.ref h0_0, .int v0_at])), (h0_0, .inr (0, [.ref h0_0_0, .int v0_0_size])), (h0_0_0, .inl (c0_0_0, 600, .inl g0_0_values))] sz) h0 h0_0 h0_0_0 c0_0_0 v0_0_size g0_0_values) (va_A [(h0, .inr (3, [.ref h0_0, .int v0_at])), (h0_0, .inr (0, [.ref h0_0_0, .int v0_0_size])), (h0_0_0, .inl (c0_0_0, 600, .inl g0_0_values))] sz)) (vx_X (fun (u : Nat × Int32) => postX u) (zx_Re_nextByte dC dI (va_A [(h0, .inr (3, [.ref h0_0, .int v0_at])), (h0_0, .inr (0, [.ref h0_0_0, .int v0_0_size])), (h0_0_0, .inl (c0_0_0, 600, .inl g0_0_values))] sz) h0 h0_0 h0_0_0 c0_0_0 v0_0_size g0_0_values) (va_A [(h0, .inr (3, [.ref h0_0, .int v0_at])), (h0_0, .inr (0, [.ref h0_0_0, .int v0_0_size])), (h0_0_0, .inl (c0_0_0, 600, .inl g0_0_values))] sz)) 0 0 1 6 (va_A [(h0, .inr (3, [.ref h0_0, .int v0_at])), (h0_0, .inr (0, [.ref h0_0_0, .int v0_0_size])), (h0_0_0, .inl (c0_0_0, 600, .inl g0_0_values))] sz) := by
  unfold wp_Re_nextByte at hw
  refine tw_ofW (cc := zc_Re_nextByte) (maxL := 2) (ret := (some .int)) (by decide) rfl ?_
  intro p e s m args below meth c s₁ B hml hEx hv
  obtain ⟨rfl, hsz, hP, hK, hD0, hZ⟩ := hv
  have hx := B.exec
  have hb := B.bytes
  have hr := B.returns
  have hts := atoms_spec (ws := zs_Re_nextByte) B.pre
  have htb := fun w (h : w ∈ zB) => hts w (List.mem_cons_of_mem _ h)
  have hown : s.vm.findClass zr_3 = some m.cls := findClass_of_methodNamed B.named
  have hlocks := B.notSynchronized
  subst hsz
  have hD := hD0.self (sz := s.heap.size)
  generalize hAe : va_A [(h0, .inr (3, [.ref h0_0, .int v0_at])), (h0_0, .inr (0, [.ref h0_0_0, .int v0_0_size])), (h0_0_0, .inl (c0_0_0, 600, .inl g0_0_values))] s.heap.size = A at hD hZ ⊢
  have hA : ∀ q : Nat, s.heap.size ≤ q → A q := fun q h => by rw [← hAe]; exact Or.inr h
  clear hAe hD0
  have hl := lv_entry ([.ref h0]) (n := 2) (Nat.le_of_ble_eq_true rfl)
  rw [lg_entry_eq]
  generalize (lg_sl ([.ref h0]) ++ List.replicate (2 - (lg_sl ([.ref h0])).length) Slot.unset).toArray = ls at hl ⊢
  have hl : lv_has ls 2 [(0, .ref h0)] := hl
  obtain ⟨H, hH⟩ : ∃ H, H = s.heap := ⟨_, rfl⟩
  have hS : va_S A s.heap H [] := by rw [hH]; exact va_S.rf
  rw [← hH] at hP ⊢
  refine lv_aload_n hx hb zd_Re_nextByte_0 rfl (lv_at hl 0 rfl) ?_
  refine va_get (D := (dC, dI)) (ci := 3) (v := .int v0_at) (C := zr_3) (T := zt_3) (N := 2) hx hb htb zi_3 hown hK hP 0 rfl rfl 1 (by decide) (htb _ zw_263) (fun _ h9 => h9) rfl zd_Re_nextByte_1 ?_
  refine lv_aload_n hx hb zd_Re_nextByte_4 rfl (lv_at hl 0 rfl) ?_
  refine va_get (D := (dC, dI)) (ci := 3) (v := .ref h0_0) (C := zr_3) (T := zt_3) (N := 2) hx hb htb zi_3 hown hK hP 0 rfl rfl 0 (by decide) (htb _ zw_262) (fun _ h9 => h9) rfl zd_Re_nextByte_5 ?_
  refine va_get (D := (dC, dI)) (ci := 0) (v := .int v0_0_size) (C := zr_0) (T := zt_0) (N := 2) hx hb htb zi_0 hown hK hP 1 rfl rfl 1 (by decide) (htb _ zw_67) (fun _ h9 => h9) rfl zd_Re_nextByte_8 ?_
  refine lv_icmp_lt (tgt := 24) hx hb zd_Re_nextByte_11 (by decide) (fun h1 => ?_) (fun h1 => ?_)
  · have hw := hw.1 h1
    refine lv_aload_n hx hb zd_Re_nextByte_24 rfl (lv_at hl 0 rfl) ?_
    refine va_get (D := (dC, dI)) (ci := 3) (v := .ref h0_0) (C := zr_3) (T := zt_3) (N := 2) hx hb htb zi_3 hown hK hP 0 rfl rfl 0 (by decide) (htb _ zw_262) (fun _ h9 => h9) rfl zd_Re_nextByte_25 ?_
    refine lv_aload_n hx hb zd_Re_nextByte_28 rfl (lv_at hl 0 rfl) ?_
    refine va_get (D := (dC, dI)) (ci := 3) (v := .int v0_at) (C := zr_3) (T := zt_3) (N := 2) hx hb htb zi_3 hown hK hP 0 rfl rfl 1 (by decide) (htb _ zw_263) (fun _ h9 => h9) rfl zd_Re_nextByte_29 ?_
    have hPc := hP.sub (ws' := [(h0_0, .inr (0, [.ref h0_0_0, .int v0_0_size])), (h0_0_0, .inl (c0_0_0, 600, .inl g0_0_values))]) [1, 2] rfl
    have hDc := hD.sub (ws' := [(h0_0, .inr (0, [.ref h0_0_0, .int v0_0_size])), (h0_0_0, .inl (c0_0_0, 600, .inl g0_0_values))]) [1, 2] (by decide) rfl
    have hKc := hK.sub (tys' := [(c0_0_0, .int)]) [0] rfl
    have hFc := va_free (wc := [(h0_0, .inr (0, [.ref h0_0_0, .int v0_0_size])), (h0_0_0, .inl (c0_0_0, 600, .inl g0_0_values))]) hD hS hA [1, 2] rfl
    refine va_calli (va_runV (As := [.int v0_at]) (rest := []) ⟨hx, hb, hml, hown, htb⟩ (mt_By_get l dC dI h0_0 h0_0_0 H.size c0_0_0 v0_0_size g0_0_values v0_at _ hw) (cwV 1 htb (zgV zw_335 zw_140 zw_141 zw_3 zw_142) rfl rfl rfl (by decide +kernel) ⟨(Nat.le_of_ble_eq_true rfl), (Nat.le_of_ble_eq_true rfl)⟩) ⟨zP_blind, va_recv (ci := 0) (q0 := 1) hK hP rfl rfl, zP_pre hPc hKc hDc⟩ rfl rfl hl.1 rfl (lv_room (Nat.le_of_ble_eq_true rfl)) zd_Re_nextByte_32 ⟨(Nat.le_of_ble_eq_true rfl), (Nat.le_of_ble_eq_true rfl)⟩) hS (fun q _ h => hFc q h) hFc (fun x3 u2 t H1 locs ht hvm hw hB hz1 hk1 hS => ?_)
    obtain ⟨hP1, hK1, hD1⟩ := hB
    rw [ht] at hP1
    have hK1 := va_K.moved hvm.symm hK1
    obtain ⟨hP, hD⟩ := va_join (wr := [(h0, .inr (3, [.ref h0_0, .int v0_at]))]) (w1 := [(h0_0, .inr (0, [.ref h0_0_0, .int v0_0_size])), (h0_0_0, .inl (c0_0_0, 600, .inl g0_0_values))]) hP hD [1, 2] [0] rfl rfl (by decide) (by decide) hk1 hFc hP1 hD1
    generalize H1 = H at hP hS ⊢
    have hP : va_P (dC, dI) zC [(h0, .inr (3, [.ref h0_0, .int v0_at])), (h0_0, .inr (0, [.ref h0_0_0, .int v0_0_size])), (h0_0_0, .inl (c0_0_0, 600, .inl g0_0_values))] H := hP
    have hD : va_D A [(h0, .inr (3, [.ref h0_0, .int v0_at])), (h0_0, .inr (0, [.ref h0_0_0, .int v0_0_size])), (h0_0_0, .inl (c0_0_0, 600, .inl g0_0_values))] := hD
    refine W.widen (k := 0) (n := 0) (Nat.le_of_ble_eq_true rfl) (Nat.le_of_ble_eq_true rfl) ?_
    refine lv_istore_n (i := 1) (lv' := [(1, .int x3), (0, .ref h0)]) hx hb zd_Re_nextByte_35 rfl hl (by decide) rfl (fun ls hl => ?_)
    refine lv_aload_n hx hb zd_Re_nextByte_36 rfl (lv_at hl 1 rfl) ?_
    refine lv_dup hx hb zd_Re_nextByte_37 rfl ?_
    refine va_get (D := (dC, dI)) (ci := 3) (v := .int v0_at) (C := zr_3) (T := zt_3) (N := 2) hx hb htb zi_3 hown hK hP 0 rfl rfl 1 (by decide) (htb _ zw_263) (fun _ h9 => h9) rfl zd_Re_nextByte_38 ?_
    refine lv_iconst (v := 1) hx hb zd_Re_nextByte_41 (by decide) ?_
    refine lv_iadd hx hb zd_Re_nextByte_42 ?_
    refine lv_topi (fun x5 ex5 => ?_)
    have hw := hw x5 ex5
    refine va_put (D := (dC, dI)) (ci := 3) (v := .int x5) (ty := .int) (C := zr_3) (T := zt_3) (N := 2) hx hb htb zi_3 zf_3 zk_3 zn_3 hown hK hP hD hS 0 rfl rfl 1 (by decide) (htb _ zw_263) (fun _ h9 => h9) rfl (by decide +kernel) rfl rfl (Nat.le_of_ble_eq_true rfl) zd_Re_nextByte_43 (fun H locs hP hD hS => ?_)
    have hP : va_P (dC, dI) zC [(h0, .inr (3, [.ref h0_0, .int x5])), (h0_0, .inr (0, [.ref h0_0_0, .int v0_0_size])), (h0_0_0, .inl (c0_0_0, 600, .inl g0_0_values))] H := hP
    have hD : va_D A [(h0, .inr (3, [.ref h0_0, .int x5])), (h0_0, .inr (0, [.ref h0_0_0, .int v0_0_size])), (h0_0_0, .inl (c0_0_0, 600, .inl g0_0_values))] := hD
    refine lv_iload_n hx hb zd_Re_nextByte_46 rfl (lv_at hl 0 rfl) ?_
    have hP9 := hP.sub (ws' := [(h0, .inr (3, [.ref h0_0, .int x5])), (h0_0, .inr (0, [.ref h0_0_0, .int v0_0_size])), (h0_0_0, .inl (c0_0_0, 600, .inl g0_0_values))]) [0, 1, 2] rfl
    have hD9 := hD.sub (ws' := [(h0, .inr (3, [.ref h0_0, .int x5])), (h0_0, .inr (0, [.ref h0_0_0, .int v0_0_size])), (h0_0_0, .inl (c0_0_0, 600, .inl g0_0_values))]) [0, 1, 2] (by decide) rfl
    have hK9 := hK.sub (tys' := [(c0_0_0, .int)]) [0] rfl
    refine W.widen (k := 0) (n := 0) (Nat.le_of_ble_eq_true rfl) (Nat.le_of_ble_eq_true rfl) ?_
    refine tw_ret ?_
    exact W.iret (v := x3) hx hb hr (fun t ht hW => ⟨⟨x3, x5, rfl, hw, by rw [ht]; exact hP9, va_K.moved hW.alike hK9, hD9⟩, hS.F ht⟩) hS.2.2 zd_Re_nextByte_47
  · have hw := hw.2 h1
    have hP9 := hP.sub (ws' := [(h0, .inr (3, [.ref h0_0, .int v0_at])), (h0_0, .inr (0, [.ref h0_0_0, .int v0_0_size])), (h0_0_0, .inl (c0_0_0, 600, .inl g0_0_values))]) [0, 1, 2] rfl
    have hD9 := hD.sub (ws' := [(h0, .inr (3, [.ref h0_0, .int v0_at])), (h0_0, .inr (0, [.ref h0_0_0, .int v0_0_size])), (h0_0_0, .inl (c0_0_0, 600, .inl g0_0_values))]) [0, 1, 2] (by decide) rfl
    have hK9 := hK.sub (tys' := [(c0_0_0, .int)]) [0] rfl
    exact tw_throwS (own := zr_3) (cls := "java/lang/IndexOutOfBoundsException") (text := "the program ends inside of an instruction") (names := ["java/lang/RuntimeException", "java/lang/Exception"]) (ik := 24) (is := 26) (ic := 28) hx hb hl9 hown (by decide +kernel) (by decide +kernel) (htb _ zw_319) (htb _ zw_13) (hZ.2.2.1 1 (zr_3, 26, "the program ends inside of an instruction") rfl) (zh_Re_28 htb hZ) zg_Re_28 hZ.1 hZ.2.1 hS (hl.1.trans hml.symm) zd_Re_nextByte_14 zd_Re_nextByte_17 zd_Re_nextByte_18 zd_Re_nextByte_20 zd_Re_nextByte_23 (fun x hx => (hEx x hx).elim) (Nat.le_of_ble_eq_true rfl) (Nat.le_of_ble_eq_true rfl) (Nat.le_of_ble_eq_true rfl) (Nat.le_of_ble_eq_true rfl) hlocks (fun t ha hz hk => ⟨(1, v0_at), hw, ⟨rfl, hP9.kept (fun k q h => hk _ (hP9 k q h).lt), va_K.moved ha hK9, hD9⟩, zFX hS hz hk⟩) hS.2.2 (Nat.le_of_ble_eq_true rfl) (Nat.le_of_ble_eq_true rfl)
abbrev zo_Re_fitting : Room := { frames := 6, cells := 1, slots := 6, locals := 90 }
abbrev zb_Re_fitting (dC : Nat → ClassId) (dI : Nat → Nat → Nat) (A : Nat → Prop) (u : Unit) (t : State) : Prop := va_P (dC, dI) zC [] t.heap ∧ va_K (dC, dI) zC [] t ∧ va_D A []
abbrev zx_Re_fitting (dC : Nat → ClassId) (dI : Nat → Nat → Nat) (A : Nat → Prop) (E : String) (u : Nat × Unit) (t : State) : Prop := E = zE u.1 ∧ zb_Re_fitting dC dI A u.2 t
set_option maxHeartbeats 4000000 in
set_option maxRecDepth 100000 in
theorem mt_Re_fitting (l : Launch) (hl9 : l.stackTraces = false) (dC : Nat → ClassId) (dI : Nat → Nat → Nat) (sa : Nat → Nat) (sz : Nat) (p0 : Int64) (post : Int32 → Unit → Prop) (postX : Nat × Unit → Prop) (hw : wp_Re_fitting p0 post postX) : tw_Met l zy_Re_fitting zs_Re_fitting zo_Re_fitting (zPx dC dI sa [.long p0] sz [] []) (va_Qi (fun (r : Int32) (u : Unit) => post r u) (zb_Re_fitting dC dI (va_A [] sz)) (va_A [] sz)) (vx_X (fun (u : Nat × Unit) => postX u) (zx_Re_fitting dC dI (va_A [] sz)) (va_A [] sz)) 0 0 1 6 (va_A [] sz) := by
  unfold wp_Re_fitting at hw
  refine tw_ofW (cc := zc_Re_fitting) (maxL := 2) (ret := (some .int)) (by decide) rfl ?_
  intro p e s m args below meth c s₁ B hml hEx hv
  obtain ⟨rfl, hsz, hP, hK, hD0, hZ⟩ := hv
  have hx := B.exec
  have hb := B.bytes
  have hr := B.returns
  have hts := atoms_spec (ws := zs_Re_fitting) B.pre
  have htb := fun w (h : w ∈ zB) => hts w (List.mem_cons_of_mem _ h)
  have hown : s.vm.findClass zr_3 = some m.cls := findClass_of_methodNamed B.named
  have hlocks := B.notSynchronized
  subst hsz
  have hD := hD0.self (sz := s.heap.size)
  generalize hAe : va_A [] s.heap.size = A at hD hZ ⊢
  have hA : ∀ q : Nat, s.heap.size ≤ q → A q := fun q h => by rw [← hAe]; exact Or.inr h
  clear hAe hD0
  have hl := lv_entry ([.long p0]) (n := 2) (Nat.le_of_ble_eq_true rfl)
  rw [lg_entry_eq]
  generalize (lg_sl ([.long p0]) ++ List.replicate (2 - (lg_sl ([.long p0])).length) Slot.unset).toArray = ls at hl ⊢
  have hl : lv_has ls 2 [(0, .long p0)] := hl
  obtain ⟨H, hH⟩ : ∃ H, H = s.heap := ⟨_, rfl⟩
  have hS : va_S A s.heap H [] := by rw [hH]; exact va_S.rf
  rw [← hH] at hP ⊢
  refine lv_lload_n hx hb zd_Re_fitting_0 rfl (lv_at hl 0 rfl) ?_
  refine lv_ldc2 (v := (-2147483648)) hx hb hown (htb _ zw_422) zd_Re_fitting_1 ?_
  refine W.lcmp hx hb zd_Re_fitting_4 ?_
  refine lv_topi (fun x1 ex1 => ?_)
  have hw := hw x1 ex1
  refine lv_if_lt (tgt := 16) hx hb zd_Re_fitting_5 (by decide) (fun h2 => ?_) (fun h2 => ?_)
  · have hw := hw.1 h2
    have hP9 := hP.sub (ws' := []) [] rfl
    have hD9 := hD.sub (ws' := []) [] (by decide) rfl
    have hK9 := hK.sub (tys' := []) [] rfl
    exact tw_throwS (own := zr_3) (cls := "java/lang/IllegalArgumentException") (text := "a number is too big") (names := ["java/lang/RuntimeException", "java/lang/Exception"]) (ik := 49) (is := 58) (ic := 53) hx hb hl9 hown (by decide +kernel) (by decide +kernel) (htb _ zw_424) (htb _ zw_16) (hZ.2.2.1 6 (zr_3, 58, "a number is too big") rfl) (zh_Re_53 htb hZ) zg_Re_53 hZ.1 hZ.2.1 hS (hl.1.trans hml.symm) zd_Re_fitting_16 zd_Re_fitting_19 zd_Re_fitting_20 zd_Re_fitting_22 zd_Re_fitting_25 (fun x hx => (hEx x hx).elim) (Nat.le_of_ble_eq_true rfl) (Nat.le_of_ble_eq_true rfl) (Nat.le_of_ble_eq_true rfl) (Nat.le_of_ble_eq_true rfl) hlocks (fun t ha hz hk => ⟨(2, ()), hw, ⟨rfl, hP9.kept (fun k q h => hk _ (hP9 k q h).lt), va_K.moved ha hK9, hD9⟩, zFX hS hz hk⟩) hS.2.2 (Nat.le_of_ble_eq_true rfl) (Nat.le_of_ble_eq_true rfl)
  · have hw := hw.2 h2
    refine lv_lload_n hx hb zd_Re_fitting_8 rfl (lv_at hl 0 rfl) ?_
    refine lv_ldc2 (v := (2147483647)) hx hb hown (htb _ zw_423) zd_Re_fitting_9 ?_
    refine W.lcmp hx hb zd_Re_fitting_12 ?_
    refine lv_topi (fun x3 ex3 => ?_)
    have hw := hw x3 ex3
    refine lv_if_le (tgt := 26) hx hb zd_Re_fitting_13 (by decide) (fun h4 => ?_) (fun h4 => ?_)
    · have hw := hw.1 h4
      refine lv_lload_n hx hb zd_Re_fitting_26 rfl (lv_at hl 0 rfl) ?_
      refine lv_l2i hx hb zd_Re_fitting_27 rfl ?_
      refine lv_topi (fun x5 ex5 => ?_)
      have hw := hw x5 ex5
      have hP9 := hP.sub (ws' := []) [] rfl
      have hD9 := hD.sub (ws' := []) [] (by decide) rfl
      have hK9 := hK.sub (tys' := []) [] rfl
      refine W.widen (k := 0) (n := 0) (Nat.le_of_ble_eq_true rfl) (Nat.le_of_ble_eq_true rfl) ?_
      refine tw_ret ?_
      exact W.iret (v := x5) hx hb hr (fun t ht hW => ⟨⟨x5, (), rfl, hw, by rw [ht]; exact hP9, va_K.moved hW.alike hK9, hD9⟩, hS.F ht⟩) hS.2.2 zd_Re_fitting_28
    · have hw := hw.2 h4
      have hP9 := hP.sub (ws' := []) [] rfl
      have hD9 := hD.sub (ws' := []) [] (by decide) rfl
      have hK9 := hK.sub (tys' := []) [] rfl
      exact tw_throwS (own := zr_3) (cls := "java/lang/IllegalArgumentException") (text := "a number is too big") (names := ["java/lang/RuntimeException", "java/lang/Exception"]) (ik := 49) (is := 58) (ic := 53) hx hb hl9 hown (by decide +kernel) (by decide +kernel) (htb _ zw_424) (htb _ zw_16) (hZ.2.2.1 6 (zr_3, 58, "a number is too big") rfl) (zh_Re_53 htb hZ) zg_Re_53 hZ.1 hZ.2.1 hS (hl.1.trans hml.symm) zd_Re_fitting_16 zd_Re_fitting_19 zd_Re_fitting_20 zd_Re_fitting_22 zd_Re_fitting_25 (fun x hx => (hEx x hx).elim) (Nat.le_of_ble_eq_true rfl) (Nat.le_of_ble_eq_true rfl) (Nat.le_of_ble_eq_true rfl) (Nat.le_of_ble_eq_true rfl) hlocks (fun t ha hz hk => ⟨(2, ()), hw, ⟨rfl, hP9.kept (fun k q h => hk _ (hP9 k q h).lt), va_K.moved ha hK9, hD9⟩, zFX hS hz hk⟩) hS.2.2 (Nat.le_of_ble_eq_true rfl) (Nat.le_of_ble_eq_true rfl)
abbrev zo_Re_nextNumber : Room := { frames := 7, cells := 1, slots := 6, locals := 111 }
abbrev zb_Re_nextNumber (dC : Nat → ClassId) (dI : Nat → Nat → Nat) (A : Nat → Prop) (h0 h0_0 h0_0_0 : Nat) (c0_0_0 : ClassId) (v0_0_size : Int32) (g0_0_values : Nat → Int32) (u : Int32) (t : State) : Prop := va_P (dC, dI) zC [(h0, .inr (3, [.ref h0_0, .int u])), (h0_0, .inr (0, [.ref h0_0_0, .int v0_0_size])), (h0_0_0, .inl (c0_0_0, 600, .inl g0_0_values))] t.heap ∧ va_K (dC, dI) zC [(c0_0_0, .int)] t ∧ va_D A [(h0, .inr (3, [.ref h0_0, .int u])), (h0_0, .inr (0, [.ref h0_0_0, .int v0_0_size])), (h0_0_0, .inl (c0_0_0, 600, .inl g0_0_values))]
abbrev zx_Re_nextNumber (dC : Nat → ClassId) (dI : Nat → Nat → Nat) (A : Nat → Prop) (h0 h0_0 h0_0_0 : Nat) (c0_0_0 : ClassId) (v0_0_size : Int32) (g0_0_values : Nat → Int32) (E : String) (u : Nat × Int32) (t : State) : Prop := E = zE u.1 ∧ zb_Re_nextNumber dC dI A h0 h0_0 h0_0_0 c0_0_0 v0_0_size g0_0_values u.2 t
set_option maxHeartbeats 4000000 in
set_option maxRecDepth 100000 in
theorem mt_Re_nextNumber (l : Launch) (hl9 : l.stackTraces = false) (dC : Nat → ClassId) (dI : Nat → Nat → Nat) (sa : Nat → Nat) (h0 h0_0 h0_0_0 sz : Nat) (c0_0_0 : ClassId) (v0_at : Int32) (v0_0_size : Int32) (g0_0_values : Nat → Int32) (p0 : Int32) (post : Int32 → Int32 → Prop) (postX : Nat × Int32 → Prop) (hw : wp_Re_nextNumber v0_at v0_0_size g0_0_values p0 post postX) : tw_Met l zy_Re_nextNumber zs_Re_nextNumber zo_Re_nextNumber (zPx dC dI sa [.ref h0, .int p0] sz [(h0, .inr (3, [.ref h0_0, .int v0_at])), (h0_0, .inr (0, [.ref h0_0_0, .int v0_0_size])), (h0_0_0, .inl (c0_0_0, 600, .inl g0_0_values))] [(c0_0_0, .int)]) (va_Qi (fun (r : Int32) (u : Int32) => post r u) (zb_Re_nextNumber dC dI (va_A [(h0, .inr (3, [.ref h0_0, .int v0_at])), (h0_0, .inr (0, [.ref h0_0_0, .int v0_0_size])), (h0_0_0, .inl (c0_0_0, 600, .inl g0_0_values))] sz) h0 h0_0 h0_0_0 c0_0_0 v0_0_size g0_0_values) (va_A [(h0, .inr (3, [.ref h0_0, .int v0_at])), (h0_0, .inr (0, [.ref h0_0_0, .int v0_0_size])), (h0_0_0, .inl (c0_0_0, 600, .inl g0_0_values))] sz)) (vx_X (fun (u : Nat × Int32) => postX u) (zx_Re_nextNumber dC dI (va_A [(h0, .inr (3, [.ref h0_0, .int v0_at])), (h0_0, .inr (0, [.ref h0_0_0, .int v0_0_size])), (h0_0_0, .inl (c0_0_0, 600, .inl g0_0_values))] sz) h0 h0_0 h0_0_0 c0_0_0 v0_0_size g0_0_values) (va_A [(h0, .inr (3, [.ref h0_0, .int v0_at])), (h0_0, .inr (0, [.ref h0_0_0, .int v0_0_size])), (h0_0_0, .inl (c0_0_0, 600, .inl g0_0_values))] sz)) 0 0 1 6 (va_A [(h0, .inr (3, [.ref h0_0, .int v0_at])), (h0_0, .inr (0, [.ref h0_0_0, .int v0_0_size])), (h0_0_0, .inl (c0_0_0, 600, .inl g0_0_values))] sz) := by
  unfold wp_Re_nextNumber at hw
  refine tw_ofW (cc := zc_Re_nextNumber) (maxL := 7) (ret := (some .int)) (by decide) rfl ?_
  intro p e s m args below meth c s₁ B hml hEx hv
  obtain ⟨rfl, hsz, hP, hK, hD0, hZ⟩ := hv
  have hx := B.exec
  have hb := B.bytes
  have hr := B.returns
  have hts := atoms_spec (ws := zs_Re_nextNumber) B.pre
  have htb := fun w (h : w ∈ zB) => hts w (List.mem_cons_of_mem _ h)
  have hown : s.vm.findClass zr_3 = some m.cls := findClass_of_methodNamed B.named
  have hlocks := B.notSynchronized
  subst hsz
  have hD := hD0.self (sz := s.heap.size)
  generalize hAe : va_A [(h0, .inr (3, [.ref h0_0, .int v0_at])), (h0_0, .inr (0, [.ref h0_0_0, .int v0_0_size])), (h0_0_0, .inl (c0_0_0, 600, .inl g0_0_values))] s.heap.size = A at hD hZ ⊢
  have hA : ∀ q : Nat, s.heap.size ≤ q → A q := fun q h => by rw [← hAe]; exact Or.inr h
  clear hAe hD0
  have hl := lv_entry ([.ref h0, .int p0]) (n := 7) (Nat.le_of_ble_eq_true rfl)
  rw [lg_entry_eq]
  generalize (lg_sl ([.ref h0, .int p0]) ++ List.replicate (7 - (lg_sl ([.ref h0, .int p0])).length) Slot.unset).toArray = ls at hl ⊢
  have hl : lv_has ls 7 [(0, .ref h0), (1, .int p0)] := hl
  obtain ⟨H, hH⟩ : ∃ H, H = s.heap := ⟨_, rfl⟩
  have hS : va_S A s.heap H [] := by rw [hH]; exact va_S.rf
  rw [← hH] at hP ⊢
  refine lv_lconst (v := 0) hx hb zd_Re_nextNumber_0 (by decide) ?_
  refine lv_lstore_n (i := 2) (lv' := [(2, .long 0), (0, .ref h0), (1, .int p0)]) hx hb zd_Re_nextNumber_1 rfl hl (by decide) rfl (fun ls hl => ?_)
  refine lv_iconst (v := 0) hx hb zd_Re_nextNumber_2 (by decide) ?_
  refine lv_istore (i := 4) (lv' := [(4, .int 0), (2, .long 0), (0, .ref h0), (1, .int p0)]) hx hb zd_Re_nextNumber_3 hl (by decide) rfl (fun ls hl => ?_)
  have lp5 : ∀ (k : Nat) (v58 : Int32) (v59 : Int64) (v60 : Int32) (ls : Array Slot) (H : Heap) (locs : List Loc), lv_has ls 7 [(4, .int v60), (2, .long v59), (0, .ref h0), (1, .int p0)] → va_P (dC, dI) zC [(h0, .inr (3, [.ref h0_0, .int v58])), (h0_0, .inr (0, [.ref h0_0_0, .int v0_0_size])), (h0_0_0, .inl (c0_0_0, 600, .inl g0_0_values))] H → va_D A [(h0, .inr (3, [.ref h0_0, .int v58])), (h0_0, .inr (0, [.ref h0_0_0, .int v0_0_size])), (h0_0_0, .inl (c0_0_0, 600, .inl g0_0_values))] → va_S A s.heap H locs → wl_Re_nextNumber_5 v0_0_size g0_0_values p0 post postX k v58 v59 v60 → W p l e (headSpec zs_Re_nextNumber zo_Re_nextNumber).room s m [.ref h0, .int p0].toArray below meth c H locs 0 0 (tw_MQ below (va_Qi (fun (r : Int32) (u : Int32) => post r u) (zb_Re_nextNumber dC dI A h0 h0_0 h0_0_0 c0_0_0 v0_0_size g0_0_values) A) (vx_X (fun (u : Nat × Int32) => postX u) (zx_Re_nextNumber dC dI A h0 h0_0 h0_0_0 c0_0_0 v0_0_size g0_0_values) A) [.ref h0, .int p0].toArray s 0 0 1 6 A) (F0 m 5 ls []) := by
    intro k
    induction k with
    | zero => intro v58 v59 v60 ls H locs hl hP hD hS hw; exact False.elim hw
    | succ k ih =>
      intro v58 v59 v60 ls H locs hl hP hD hS hw
      refine lv_iload hx hb zd_Re_nextNumber_5 (lv_at hl 0 rfl) ?_
      refine lv_iconst (v := 5) hx hb zd_Re_nextNumber_7 (by decide) ?_
      refine lv_icmp_ge (tgt := 89) hx hb zd_Re_nextNumber_8 (by decide) (fun h61 => ?_) (fun h61 => ?_)
      · have hw := hw.1 h61
        have hP9 := hP.sub (ws' := [(h0, .inr (3, [.ref h0_0, .int v58])), (h0_0, .inr (0, [.ref h0_0_0, .int v0_0_size])), (h0_0_0, .inl (c0_0_0, 600, .inl g0_0_values))]) [0, 1, 2] rfl
        have hD9 := hD.sub (ws' := [(h0, .inr (3, [.ref h0_0, .int v58])), (h0_0, .inr (0, [.ref h0_0_0, .int v0_0_size])), (h0_0_0, .inl (c0_0_0, 600, .inl g0_0_values))]) [0, 1, 2] (by decide) rfl
        have hK9 := hK.sub (tys' := [(c0_0_0, .int)]) [0] rfl
        exact tw_throwS (own := zr_3) (cls := "java/lang/IllegalArgumentException") (text := "a number has more than five bytes") (names := ["java/lang/RuntimeException", "java/lang/Exception"]) (ik := 49) (is := 51) (ic := 53) hx hb hl9 hown (by decide +kernel) (by decide +kernel) (htb _ zw_424) (htb _ zw_16) (hZ.2.2.1 7 (zr_3, 51, "a number has more than five bytes") rfl) (zh_Re_53 htb hZ) zg_Re_53 hZ.1 hZ.2.1 hS (hl.1.trans hml.symm) zd_Re_nextNumber_89 zd_Re_nextNumber_92 zd_Re_nextNumber_93 zd_Re_nextNumber_95 zd_Re_nextNumber_98 (fun x hx => (hEx x hx).elim) (Nat.le_of_ble_eq_true rfl) (Nat.le_of_ble_eq_true rfl) (Nat.le_of_ble_eq_true rfl) (Nat.le_of_ble_eq_true rfl) hlocks (fun t ha hz hk => ⟨(2, v58), hw, ⟨rfl, hP9.kept (fun k q h => hk _ (hP9 k q h).lt), va_K.moved ha hK9, hD9⟩, zFX hS hz hk⟩) hS.2.2 (Nat.le_of_ble_eq_true rfl) (Nat.le_of_ble_eq_true rfl)
      · have hw := hw.2 h61
        refine lv_aload_n hx hb zd_Re_nextNumber_11 rfl (lv_at hl 2 rfl) ?_
        have hPc := hP.sub (ws' := [(h0, .inr (3, [.ref h0_0, .int v58])), (h0_0, .inr (0, [.ref h0_0_0, .int v0_0_size])), (h0_0_0, .inl (c0_0_0, 600, .inl g0_0_values))]) [0, 1, 2] rfl
        have hDc := hD.sub (ws' := [(h0, .inr (3, [.ref h0_0, .int v58])), (h0_0, .inr (0, [.ref h0_0_0, .int v0_0_size])), (h0_0_0, .inl (c0_0_0, 600, .inl g0_0_values))]) [0, 1, 2] (by decide) rfl
        have hKc := hK.sub (tys' := [(c0_0_0, .int)]) [0] rfl
        have hFc := va_free (wc := [(h0, .inr (3, [.ref h0_0, .int v58])), (h0_0, .inr (0, [.ref h0_0_0, .int v0_0_size])), (h0_0_0, .inl (c0_0_0, 600, .inl g0_0_values))]) hD hS hA [0, 1, 2] rfl
        refine tw_calli (tw_runV (As := []) (rest := []) ⟨hx, hb, hml, hown, htb⟩ (mt_Re_nextByte l hl9 dC dI sa h0 h0_0 h0_0_0 H.size c0_0_0 v58 v0_0_size g0_0_values _ _ hw) (cwV 0 htb (zgV zw_417 zw_316 zw_317 zw_12 zw_318) rfl rfl rfl (by decide +kernel) ⟨(Nat.le_of_ble_eq_true rfl), (Nat.le_of_ble_eq_true rfl)⟩) ⟨zPx_blind, va_recv (ci := 3) (q0 := 0) hK hP rfl rfl, zPx_pre hZ hS hFc hPc hKc hDc⟩ rfl rfl hl.1 rfl (lv_room (Nat.le_of_ble_eq_true rfl)) zd_Re_nextNumber_12 ⟨(Nat.le_of_ble_eq_true rfl), (Nat.le_of_ble_eq_true rfl)⟩) hS (fun q _ h => hFc q h) hFc (fun q _ h => hFc q h) (fun E9 ce9 q9 u62 t H1 locs ht hvm hw hB hz1 hk1 hS hce hcv hcl => ?_) (fun x63 u62 t H1 locs ht hvm hw hB hz1 hk1 hS => ?_)
        · obtain ⟨hE, hB⟩ := hB
          obtain ⟨hP1, hK1, hD1⟩ := hB
          rw [ht] at hP1
          have hK1 := va_K.moved hvm.symm hK1
          obtain ⟨hP, hD⟩ := va_join (wr := []) (w1 := [(h0, .inr (3, [.ref h0_0, .int u62.2])), (h0_0, .inr (0, [.ref h0_0_0, .int v0_0_size])), (h0_0_0, .inl (c0_0_0, 600, .inl g0_0_values))]) hP hD [0, 1, 2] [] rfl rfl (by decide) (by decide) hk1 hFc hP1 hD1
          generalize H1 = H at hP hS hce ⊢
          have hP : va_P (dC, dI) zC [(h0, .inr (3, [.ref h0_0, .int u62.2])), (h0_0, .inr (0, [.ref h0_0_0, .int v0_0_size])), (h0_0_0, .inl (c0_0_0, 600, .inl g0_0_values))] H := hP
          have hD : va_D A [(h0, .inr (3, [.ref h0_0, .int u62.2])), (h0_0, .inr (0, [.ref h0_0_0, .int v0_0_size])), (h0_0_0, .inl (c0_0_0, 600, .inl g0_0_values))] := hD
          have hP9 := hP.sub (ws' := [(h0, .inr (3, [.ref h0_0, .int u62.2])), (h0_0, .inr (0, [.ref h0_0_0, .int v0_0_size])), (h0_0_0, .inl (c0_0_0, 600, .inl g0_0_values))]) [0, 1, 2] rfl
          have hD9 := hD.sub (ws' := [(h0, .inr (3, [.ref h0_0, .int u62.2])), (h0_0, .inr (0, [.ref h0_0_0, .int v0_0_size])), (h0_0_0, .inl (c0_0_0, 600, .inl g0_0_values))]) [0, 1, 2] (by decide) rfl
          have hK9 := hK.sub (tys' := [(c0_0_0, .int)]) [0] rfl
          exact tw_out (E := E9) (fun x hx => (hEx x hx).elim) hlocks hce hcv hcl (fun t ht ha => ⟨(u62.1, u62.2), hw, ⟨hE, by rw [ht]; exact hP9, va_K.moved ha hK9, hD9⟩, hS.F ht⟩) hS.2.2 (Nat.le_of_ble_eq_true rfl) (Nat.le_of_ble_eq_true rfl)
        · skip
          obtain ⟨hP1, hK1, hD1⟩ := hB
          rw [ht] at hP1
          have hK1 := va_K.moved hvm.symm hK1
          obtain ⟨hP, hD⟩ := va_join (wr := []) (w1 := [(h0, .inr (3, [.ref h0_0, .int u62])), (h0_0, .inr (0, [.ref h0_0_0, .int v0_0_size])), (h0_0_0, .inl (c0_0_0, 600, .inl g0_0_values))]) hP hD [0, 1, 2] [] rfl rfl (by decide) (by decide) hk1 hFc hP1 hD1
          generalize H1 = H at hP hS ⊢
          have hP : va_P (dC, dI) zC [(h0, .inr (3, [.ref h0_0, .int u62])), (h0_0, .inr (0, [.ref h0_0_0, .int v0_0_size])), (h0_0_0, .inl (c0_0_0, 600, .inl g0_0_values))] H := hP
          have hD : va_D A [(h0, .inr (3, [.ref h0_0, .int u62])), (h0_0, .inr (0, [.ref h0_0_0, .int v0_0_size])), (h0_0_0, .inl (c0_0_0, 600, .inl g0_0_values))] := hD
          refine W.widen (k := 0) (n := 0) (Nat.le_of_ble_eq_true rfl) (Nat.le_of_ble_eq_true rfl) ?_
          refine lv_istore (i := 5) (lv' := [(5, .int x63), (4, .int v60), (2, .long v59), (0, .ref h0), (1, .int p0)]) hx hb zd_Re_nextNumber_15 hl (by decide) rfl (fun ls hl => ?_)
          refine lv_lload_n hx hb zd_Re_nextNumber_17 rfl (lv_at hl 2 rfl) ?_
          refine lv_iload hx hb zd_Re_nextNumber_18 (lv_at hl 0 rfl) ?_
          refine lv_bipush (v := 127) hx hb zd_Re_nextNumber_20 (by decide) ?_
          refine lv_iand hx hb zd_Re_nextNumber_22 ?_
          refine lv_topi (fun x65 ex65 => ?_)
          have hw := hw x65 ex65
          refine lv_i2l hx hb zd_Re_nextNumber_23 rfl ?_
          refine lv_topl (fun x66 ex66 => ?_)
          have hw := hw x66 ex66
          refine lv_bipush (v := 7) hx hb zd_Re_nextNumber_24 (by decide) ?_
          refine lv_iload hx hb zd_Re_nextNumber_26 (lv_at hl 1 rfl) ?_
          refine lv_imul hx hb zd_Re_nextNumber_28 ?_
          refine lv_topi (fun x67 ex67 => ?_)
          have hw := hw x67 ex67
          refine lv_lshl hx hb zd_Re_nextNumber_29 rfl ?_
          refine lv_topl (fun x68 ex68 => ?_)
          have hw := hw x68 ex68
          refine lv_lor hx hb zd_Re_nextNumber_30 ?_
          refine lv_topl (fun x69 ex69 => ?_)
          have hw := hw x69 ex69
          refine lv_lstore_n (i := 2) (lv' := [(2, .long x69), (5, .int x63), (4, .int v60), (0, .ref h0), (1, .int p0)]) hx hb zd_Re_nextNumber_31 rfl hl (by decide) rfl (fun ls hl => ?_)
          refine lv_iload hx hb zd_Re_nextNumber_32 (lv_at hl 1 rfl) ?_
          refine lv_sipush (v := 128) hx hb zd_Re_nextNumber_34 (by decide) ?_
          refine lv_icmp_ge (tgt := 83) hx hb zd_Re_nextNumber_37 (by decide) (fun h70 => ?_) (fun h70 => ?_)
          · have hw := hw.1 h70
            obtain ⟨x71, ex71⟩ : ∃ z : Int32, z = v60 + Int32.ofInt 1 := ⟨_, rfl⟩
            have hw := hw x71 ex71
            refine lv_iinc (k := 2) (v := x71) (lv' := [(4, .int x71), (2, .long x69), (5, .int x63), (0, .ref h0), (1, .int p0)]) hx hb zd_Re_nextNumber_83 hl rfl ex71.symm (by decide) rfl (fun ls hl => ?_)
            refine lv_goto (tgt := 5) hx hb zd_Re_nextNumber_86 (by decide) ?_
            exact ih u62 x69 x71 ls H _ (lv_sub hl [0, 1, 3, 4] rfl) (hP.sub (ws' := [(h0, .inr (3, [.ref h0_0, .int u62])), (h0_0, .inr (0, [.ref h0_0_0, .int v0_0_size])), (h0_0_0, .inl (c0_0_0, 600, .inl g0_0_values))]) [0, 1, 2] rfl) (hD.sub (ws' := [(h0, .inr (3, [.ref h0_0, .int u62])), (h0_0, .inr (0, [.ref h0_0_0, .int v0_0_size])), (h0_0_0, .inl (c0_0_0, 600, .inl g0_0_values))]) [0, 1, 2] (by decide) rfl) hS hw
          · have hw := hw.2 h70
            refine lv_iload_n hx hb zd_Re_nextNumber_40 rfl (lv_at hl 4 rfl) ?_
            have jn56 : ∀  (ls : Array Slot) (H : Heap) (locs : List Loc), lv_has ls 7 [(2, .long x69), (5, .int x63), (4, .int v60), (0, .ref h0), (1, .int p0)] → va_P (dC, dI) zC [(h0, .inr (3, [.ref h0_0, .int u62])), (h0_0, .inr (0, [.ref h0_0_0, .int v0_0_size])), (h0_0_0, .inl (c0_0_0, 600, .inl g0_0_values))] H → va_D A [(h0, .inr (3, [.ref h0_0, .int u62])), (h0_0, .inr (0, [.ref h0_0_0, .int v0_0_size])), (h0_0_0, .inl (c0_0_0, 600, .inl g0_0_values))] → va_S A s.heap H locs → wj_Re_nextNumber_56 post postX v60 u62 x69  → W p l e (headSpec zs_Re_nextNumber zo_Re_nextNumber).room s m [.ref h0, .int p0].toArray below meth c H locs 0 0 (tw_MQ below (va_Qi (fun (r : Int32) (u : Int32) => post r u) (zb_Re_nextNumber dC dI A h0 h0_0 h0_0_0 c0_0_0 v0_0_size g0_0_values) A) (vx_X (fun (u : Nat × Int32) => postX u) (zx_Re_nextNumber dC dI A h0 h0_0 h0_0_0 c0_0_0 v0_0_size g0_0_values) A) [.ref h0, .int p0].toArray s 0 0 1 6 A) (F0 m 56 ls []) := by
              intro  ls H locs hl hP hD hS hw
              unfold wj_Re_nextNumber_56 at hw
              refine lv_iconst (v := 0) hx hb zd_Re_nextNumber_56 (by decide) ?_
              refine lv_istore (i := 6) (lv' := [(6, .int 0), (2, .long x69), (5, .int x63), (4, .int v60), (0, .ref h0), (1, .int p0)]) hx hb zd_Re_nextNumber_57 hl (by decide) rfl (fun ls hl => ?_)
              refine lv_iload hx hb zd_Re_nextNumber_59 (lv_at hl 0 rfl) ?_
              refine lv_if_eq (tgt := 78) hx hb zd_Re_nextNumber_61 (by decide) (fun h95 => ?_) (fun h95 => ?_)
              · have hw := hw.1 h95
                refine lv_lload_n hx hb zd_Re_nextNumber_78 rfl (lv_at hl 1 rfl) ?_
                have hPc := hP.sub (ws' := []) [] rfl
                have hDc := hD.sub (ws' := []) [] (by decide) rfl
                have hKc := hK.sub (tys' := []) [] rfl
                have hFc := va_free (wc := []) hD hS hA [] rfl
                refine tw_calli (tw_runS (As := [.long x69]) (rest := []) ⟨hx, hb, hml, hown, htb⟩ (mt_Re_fitting l hl9 dC dI sa H.size x69 _ _ hw) (va_cwS 1 htb (zgS zw_419 zw_420 zw_12 zw_421) rfl rfl rfl (by decide +kernel) ⟨(Nat.le_of_ble_eq_true rfl), (Nat.le_of_ble_eq_true rfl)⟩) ⟨zPx_blind, zPx_pre hZ hS hFc hPc hKc hDc⟩ rfl rfl hl.1 rfl (lv_room (Nat.le_of_ble_eq_true rfl)) zd_Re_nextNumber_79 ⟨(Nat.le_of_ble_eq_true rfl), (Nat.le_of_ble_eq_true rfl)⟩) hS (fun q _ h => hFc q h) hFc (fun q _ h => hFc q h) (fun E9 ce9 q9 u96 t H1 locs ht hvm hw hB hz1 hk1 hS hce hcv hcl => ?_) (fun x97 u96 t H1 locs ht hvm hw hB hz1 hk1 hS => ?_)
                · obtain ⟨hE, hB⟩ := hB
                  obtain ⟨hP1, hK1, hD1⟩ := hB
                  rw [ht] at hP1
                  have hK1 := va_K.moved hvm.symm hK1
                  obtain ⟨hP, hD⟩ := va_join (wr := [(h0, .inr (3, [.ref h0_0, .int u62])), (h0_0, .inr (0, [.ref h0_0_0, .int v0_0_size])), (h0_0_0, .inl (c0_0_0, 600, .inl g0_0_values))]) (w1 := []) hP hD [] [0, 1, 2] rfl rfl (by decide) (by decide) hk1 hFc hP1 hD1
                  generalize H1 = H at hP hS hce ⊢
                  have hP : va_P (dC, dI) zC [(h0, .inr (3, [.ref h0_0, .int u62])), (h0_0, .inr (0, [.ref h0_0_0, .int v0_0_size])), (h0_0_0, .inl (c0_0_0, 600, .inl g0_0_values))] H := hP
                  have hD : va_D A [(h0, .inr (3, [.ref h0_0, .int u62])), (h0_0, .inr (0, [.ref h0_0_0, .int v0_0_size])), (h0_0_0, .inl (c0_0_0, 600, .inl g0_0_values))] := hD
                  have hP9 := hP.sub (ws' := [(h0, .inr (3, [.ref h0_0, .int u62])), (h0_0, .inr (0, [.ref h0_0_0, .int v0_0_size])), (h0_0_0, .inl (c0_0_0, 600, .inl g0_0_values))]) [0, 1, 2] rfl
                  have hD9 := hD.sub (ws' := [(h0, .inr (3, [.ref h0_0, .int u62])), (h0_0, .inr (0, [.ref h0_0_0, .int v0_0_size])), (h0_0_0, .inl (c0_0_0, 600, .inl g0_0_values))]) [0, 1, 2] (by decide) rfl
                  have hK9 := hK.sub (tys' := [(c0_0_0, .int)]) [0] rfl
                  exact tw_out (E := E9) (fun x hx => (hEx x hx).elim) hlocks hce hcv hcl (fun t ht ha => ⟨(u96.1, u62), hw, ⟨hE, by rw [ht]; exact hP9, va_K.moved ha hK9, hD9⟩, hS.F ht⟩) hS.2.2 (Nat.le_of_ble_eq_true rfl) (Nat.le_of_ble_eq_true rfl)
                · skip
                  obtain ⟨hP1, hK1, hD1⟩ := hB
                  rw [ht] at hP1
                  have hK1 := va_K.moved hvm.symm hK1
                  obtain ⟨hP, hD⟩ := va_join (wr := [(h0, .inr (3, [.ref h0_0, .int u62])), (h0_0, .inr (0, [.ref h0_0_0, .int v0_0_size])), (h0_0_0, .inl (c0_0_0, 600, .inl g0_0_values))]) (w1 := []) hP hD [] [0, 1, 2] rfl rfl (by decide) (by decide) hk1 hFc hP1 hD1
                  generalize H1 = H at hP hS ⊢
                  have hP : va_P (dC, dI) zC [(h0, .inr (3, [.ref h0_0, .int u62])), (h0_0, .inr (0, [.ref h0_0_0, .int v0_0_size])), (h0_0_0, .inl (c0_0_0, 600, .inl g0_0_values))] H := hP
                  have hD : va_D A [(h0, .inr (3, [.ref h0_0, .int u62])), (h0_0, .inr (0, [.ref h0_0_0, .int v0_0_size])), (h0_0_0, .inl (c0_0_0, 600, .inl g0_0_values))] := hD
                  refine W.widen (k := 0) (n := 0) (Nat.le_of_ble_eq_true rfl) (Nat.le_of_ble_eq_true rfl) ?_
                  have hP9 := hP.sub (ws' := [(h0, .inr (3, [.ref h0_0, .int u62])), (h0_0, .inr (0, [.ref h0_0_0, .int v0_0_size])), (h0_0_0, .inl (c0_0_0, 600, .inl g0_0_values))]) [0, 1, 2] rfl
                  have hD9 := hD.sub (ws' := [(h0, .inr (3, [.ref h0_0, .int u62])), (h0_0, .inr (0, [.ref h0_0_0, .int v0_0_size])), (h0_0_0, .inl (c0_0_0, 600, .inl g0_0_values))]) [0, 1, 2] (by decide) rfl
                  have hK9 := hK.sub (tys' := [(c0_0_0, .int)]) [0] rfl
                  refine W.widen (k := 0) (n := 0) (Nat.le_of_ble_eq_true rfl) (Nat.le_of_ble_eq_true rfl) ?_
                  refine tw_ret ?_
                  exact W.iret (v := x97) hx hb hr (fun t ht hW => ⟨⟨x97, u62, rfl, hw, by rw [ht]; exact hP9, va_K.moved hW.alike hK9, hD9⟩, hS.F ht⟩) hS.2.2 zd_Re_nextNumber_82
              · have hw := hw.2 h95
                refine lv_lload_n hx hb zd_Re_nextNumber_64 rfl (lv_at hl 1 rfl) ?_
                refine lv_ldc2 (v := (128)) hx hb hown (htb _ zw_418) zd_Re_nextNumber_65 ?_
                refine lv_bipush (v := 7) hx hb zd_Re_nextNumber_68 (by decide) ?_
                refine lv_iload hx hb zd_Re_nextNumber_70 (lv_at hl 3 rfl) ?_
                refine lv_imul hx hb zd_Re_nextNumber_72 ?_
                refine lv_topi (fun x99 ex99 => ?_)
                have hw := hw x99 ex99
                refine lv_lshl hx hb zd_Re_nextNumber_73 rfl ?_
                refine lv_topl (fun x100 ex100 => ?_)
                have hw := hw x100 ex100
                refine lv_lsub hx hb zd_Re_nextNumber_74 ?_
                refine lv_topl (fun x101 ex101 => ?_)
                have hw := hw x101 ex101
                refine lv_goto (tgt := 79) hx hb zd_Re_nextNumber_75 (by decide) ?_
                have hPc := hP.sub (ws' := []) [] rfl
                have hDc := hD.sub (ws' := []) [] (by decide) rfl
                have hKc := hK.sub (tys' := []) [] rfl
                have hFc := va_free (wc := []) hD hS hA [] rfl
                refine tw_calli (tw_runS (As := [.long x101]) (rest := []) ⟨hx, hb, hml, hown, htb⟩ (mt_Re_fitting l hl9 dC dI sa H.size x101 _ _ hw) (va_cwS 1 htb (zgS zw_419 zw_420 zw_12 zw_421) rfl rfl rfl (by decide +kernel) ⟨(Nat.le_of_ble_eq_true rfl), (Nat.le_of_ble_eq_true rfl)⟩) ⟨zPx_blind, zPx_pre hZ hS hFc hPc hKc hDc⟩ rfl rfl hl.1 rfl (lv_room (Nat.le_of_ble_eq_true rfl)) zd_Re_nextNumber_79 ⟨(Nat.le_of_ble_eq_true rfl), (Nat.le_of_ble_eq_true rfl)⟩) hS (fun q _ h => hFc q h) hFc (fun q _ h => hFc q h) (fun E9 ce9 q9 u102 t H1 locs ht hvm hw hB hz1 hk1 hS hce hcv hcl => ?_) (fun x103 u102 t H1 locs ht hvm hw hB hz1 hk1 hS => ?_)
                · obtain ⟨hE, hB⟩ := hB
                  obtain ⟨hP1, hK1, hD1⟩ := hB
                  rw [ht] at hP1
                  have hK1 := va_K.moved hvm.symm hK1
                  obtain ⟨hP, hD⟩ := va_join (wr := [(h0, .inr (3, [.ref h0_0, .int u62])), (h0_0, .inr (0, [.ref h0_0_0, .int v0_0_size])), (h0_0_0, .inl (c0_0_0, 600, .inl g0_0_values))]) (w1 := []) hP hD [] [0, 1, 2] rfl rfl (by decide) (by decide) hk1 hFc hP1 hD1
                  generalize H1 = H at hP hS hce ⊢
                  have hP : va_P (dC, dI) zC [(h0, .inr (3, [.ref h0_0, .int u62])), (h0_0, .inr (0, [.ref h0_0_0, .int v0_0_size])), (h0_0_0, .inl (c0_0_0, 600, .inl g0_0_values))] H := hP
                  have hD : va_D A [(h0, .inr (3, [.ref h0_0, .int u62])), (h0_0, .inr (0, [.ref h0_0_0, .int v0_0_size])), (h0_0_0, .inl (c0_0_0, 600, .inl g0_0_values))] := hD
                  have hP9 := hP.sub (ws' := [(h0, .inr (3, [.ref h0_0, .int u62])), (h0_0, .inr (0, [.ref h0_0_0, .int v0_0_size])), (h0_0_0, .inl (c0_0_0, 600, .inl g0_0_values))]) [0, 1, 2] rfl
                  have hD9 := hD.sub (ws' := [(h0, .inr (3, [.ref h0_0, .int u62])), (h0_0, .inr (0, [.ref h0_0_0, .int v0_0_size])), (h0_0_0, .inl (c0_0_0, 600, .inl g0_0_values))]) [0, 1, 2] (by decide) rfl
                  have hK9 := hK.sub (tys' := [(c0_0_0, .int)]) [0] rfl
                  exact tw_out (E := E9) (fun x hx => (hEx x hx).elim) hlocks hce hcv hcl (fun t ht ha => ⟨(u102.1, u62), hw, ⟨hE, by rw [ht]; exact hP9, va_K.moved ha hK9, hD9⟩, hS.F ht⟩) hS.2.2 (Nat.le_of_ble_eq_true rfl) (Nat.le_of_ble_eq_true rfl)
                · skip
                  obtain ⟨hP1, hK1, hD1⟩ := hB
                  rw [ht] at hP1
                  have hK1 := va_K.moved hvm.symm hK1
                  obtain ⟨hP, hD⟩ := va_join (wr := [(h0, .inr (3, [.ref h0_0, .int u62])), (h0_0, .inr (0, [.ref h0_0_0, .int v0_0_size])), (h0_0_0, .inl (c0_0_0, 600, .inl g0_0_values))]) (w1 := []) hP hD [] [0, 1, 2] rfl rfl (by decide) (by decide) hk1 hFc hP1 hD1
                  generalize H1 = H at hP hS ⊢
                  have hP : va_P (dC, dI) zC [(h0, .inr (3, [.ref h0_0, .int u62])), (h0_0, .inr (0, [.ref h0_0_0, .int v0_0_size])), (h0_0_0, .inl (c0_0_0, 600, .inl g0_0_values))] H := hP
                  have hD : va_D A [(h0, .inr (3, [.ref h0_0, .int u62])), (h0_0, .inr (0, [.ref h0_0_0, .int v0_0_size])), (h0_0_0, .inl (c0_0_0, 600, .inl g0_0_values))] := hD
                  refine W.widen (k := 0) (n := 0) (Nat.le_of_ble_eq_true rfl) (Nat.le_of_ble_eq_true rfl) ?_
                  have hP9 := hP.sub (ws' := [(h0, .inr (3, [.ref h0_0, .int u62])), (h0_0, .inr (0, [.ref h0_0_0, .int v0_0_size])), (h0_0_0, .inl (c0_0_0, 600, .inl g0_0_values))]) [0, 1, 2] rfl
                  have hD9 := hD.sub (ws' := [(h0, .inr (3, [.ref h0_0, .int u62])), (h0_0, .inr (0, [.ref h0_0_0, .int v0_0_size])), (h0_0_0, .inl (c0_0_0, 600, .inl g0_0_values))]) [0, 1, 2] (by decide) rfl
                  have hK9 := hK.sub (tys' := [(c0_0_0, .int)]) [0] rfl
                  refine W.widen (k := 0) (n := 0) (Nat.le_of_ble_eq_true rfl) (Nat.le_of_ble_eq_true rfl) ?_
                  refine tw_ret ?_
                  exact W.iret (v := x103) hx hb hr (fun t ht hW => ⟨⟨x103, u62, rfl, hw, by rw [ht]; exact hP9, va_K.moved hW.alike hK9, hD9⟩, hS.F ht⟩) hS.2.2 zd_Re_nextNumber_82
            refine lv_if_eq (tgt := 56) hx hb zd_Re_nextNumber_41 (by decide) (fun h105 => ?_) (fun h105 => ?_)
            · have hw := hw.1 h105
              exact jn56  ls H _ (lv_sub hl [0, 1, 2, 3, 4] rfl) (hP.sub (ws' := [(h0, .inr (3, [.ref h0_0, .int u62])), (h0_0, .inr (0, [.ref h0_0_0, .int v0_0_size])), (h0_0_0, .inl (c0_0_0, 600, .inl g0_0_values))]) [0, 1, 2] rfl) (hD.sub (ws' := [(h0, .inr (3, [.ref h0_0, .int u62])), (h0_0, .inr (0, [.ref h0_0_0, .int v0_0_size])), (h0_0_0, .inl (c0_0_0, 600, .inl g0_0_values))]) [0, 1, 2] (by decide) rfl) hS hw
            · have hw := hw.2 h105
              refine lv_iload hx hb zd_Re_nextNumber_44 (lv_at hl 1 rfl) ?_
              refine lv_bipush (v := 64) hx hb zd_Re_nextNumber_46 (by decide) ?_
              refine lv_iand hx hb zd_Re_nextNumber_48 ?_
              refine lv_topi (fun x106 ex106 => ?_)
              have hw := hw x106 ex106
              refine lv_if_eq (tgt := 56) hx hb zd_Re_nextNumber_49 (by decide) (fun h107 => ?_) (fun h107 => ?_)
              · have hw := hw.1 h107
                exact jn56  ls H _ (lv_sub hl [0, 1, 2, 3, 4] rfl) (hP.sub (ws' := [(h0, .inr (3, [.ref h0_0, .int u62])), (h0_0, .inr (0, [.ref h0_0_0, .int v0_0_size])), (h0_0_0, .inl (c0_0_0, 600, .inl g0_0_values))]) [0, 1, 2] rfl) (hD.sub (ws' := [(h0, .inr (3, [.ref h0_0, .int u62])), (h0_0, .inr (0, [.ref h0_0_0, .int v0_0_size])), (h0_0_0, .inl (c0_0_0, 600, .inl g0_0_values))]) [0, 1, 2] (by decide) rfl) hS hw
              · have hw := hw.2 h107
                refine lv_iconst (v := 1) hx hb zd_Re_nextNumber_52 (by decide) ?_
                refine lv_goto (tgt := 57) hx hb zd_Re_nextNumber_53 (by decide) ?_
                refine lv_istore (i := 6) (lv' := [(6, .int 1), (2, .long x69), (5, .int x63), (4, .int v60), (0, .ref h0), (1, .int p0)]) hx hb zd_Re_nextNumber_57 hl (by decide) rfl (fun ls hl => ?_)
                refine lv_iload hx hb zd_Re_nextNumber_59 (lv_at hl 0 rfl) ?_
                refine lv_if_eq (tgt := 78) hx hb zd_Re_nextNumber_61 (by decide) (fun h108 => ?_) (fun h108 => ?_)
                · have hw := hw.1 h108
                  refine lv_lload_n hx hb zd_Re_nextNumber_78 rfl (lv_at hl 1 rfl) ?_
                  have hPc := hP.sub (ws' := []) [] rfl
                  have hDc := hD.sub (ws' := []) [] (by decide) rfl
                  have hKc := hK.sub (tys' := []) [] rfl
                  have hFc := va_free (wc := []) hD hS hA [] rfl
                  refine tw_calli (tw_runS (As := [.long x69]) (rest := []) ⟨hx, hb, hml, hown, htb⟩ (mt_Re_fitting l hl9 dC dI sa H.size x69 _ _ hw) (va_cwS 1 htb (zgS zw_419 zw_420 zw_12 zw_421) rfl rfl rfl (by decide +kernel) ⟨(Nat.le_of_ble_eq_true rfl), (Nat.le_of_ble_eq_true rfl)⟩) ⟨zPx_blind, zPx_pre hZ hS hFc hPc hKc hDc⟩ rfl rfl hl.1 rfl (lv_room (Nat.le_of_ble_eq_true rfl)) zd_Re_nextNumber_79 ⟨(Nat.le_of_ble_eq_true rfl), (Nat.le_of_ble_eq_true rfl)⟩) hS (fun q _ h => hFc q h) hFc (fun q _ h => hFc q h) (fun E9 ce9 q9 u109 t H1 locs ht hvm hw hB hz1 hk1 hS hce hcv hcl => ?_) (fun x110 u109 t H1 locs ht hvm hw hB hz1 hk1 hS => ?_)
                  · obtain ⟨hE, hB⟩ := hB
                    obtain ⟨hP1, hK1, hD1⟩ := hB
                    rw [ht] at hP1
                    have hK1 := va_K.moved hvm.symm hK1
                    obtain ⟨hP, hD⟩ := va_join (wr := [(h0, .inr (3, [.ref h0_0, .int u62])), (h0_0, .inr (0, [.ref h0_0_0, .int v0_0_size])), (h0_0_0, .inl (c0_0_0, 600, .inl g0_0_values))]) (w1 := []) hP hD [] [0, 1, 2] rfl rfl (by decide) (by decide) hk1 hFc hP1 hD1
                    generalize H1 = H at hP hS hce ⊢
                    have hP : va_P (dC, dI) zC [(h0, .inr (3, [.ref h0_0, .int u62])), (h0_0, .inr (0, [.ref h0_0_0, .int v0_0_size])), (h0_0_0, .inl (c0_0_0, 600, .inl g0_0_values))] H := hP
                    have hD : va_D A [(h0, .inr (3, [.ref h0_0, .int u62])), (h0_0, .inr (0, [.ref h0_0_0, .int v0_0_size])), (h0_0_0, .inl (c0_0_0, 600, .inl g0_0_values))] := hD
                    have hP9 := hP.sub (ws' := [(h0, .inr (3, [.ref h0_0, .int u62])), (h0_0, .inr (0, [.ref h0_0_0, .int v0_0_size])), (h0_0_0, .inl (c0_0_0, 600, .inl g0_0_values))]) [0, 1, 2] rfl
                    have hD9 := hD.sub (ws' := [(h0, .inr (3, [.ref h0_0, .int u62])), (h0_0, .inr (0, [.ref h0_0_0, .int v0_0_size])), (h0_0_0, .inl (c0_0_0, 600, .inl g0_0_values))]) [0, 1, 2] (by decide) rfl
                    have hK9 := hK.sub (tys' := [(c0_0_0, .int)]) [0] rfl
                    exact tw_out (E := E9) (fun x hx => (hEx x hx).elim) hlocks hce hcv hcl (fun t ht ha => ⟨(u109.1, u62), hw, ⟨hE, by rw [ht]; exact hP9, va_K.moved ha hK9, hD9⟩, hS.F ht⟩) hS.2.2 (Nat.le_of_ble_eq_true rfl) (Nat.le_of_ble_eq_true rfl)
                  · skip
                    obtain ⟨hP1, hK1, hD1⟩ := hB
                    rw [ht] at hP1
                    have hK1 := va_K.moved hvm.symm hK1
                    obtain ⟨hP, hD⟩ := va_join (wr := [(h0, .inr (3, [.ref h0_0, .int u62])), (h0_0, .inr (0, [.ref h0_0_0, .int v0_0_size])), (h0_0_0, .inl (c0_0_0, 600, .inl g0_0_values))]) (w1 := []) hP hD [] [0, 1, 2] rfl rfl (by decide) (by decide) hk1 hFc hP1 hD1
                    generalize H1 = H at hP hS ⊢
                    have hP : va_P (dC, dI) zC [(h0, .inr (3, [.ref h0_0, .int u62])), (h0_0, .inr (0, [.ref h0_0_0, .int v0_0_size])), (h0_0_0, .inl (c0_0_0, 600, .inl g0_0_values))] H := hP
                    have hD : va_D A [(h0, .inr (3, [.ref h0_0, .int u62])), (h0_0, .inr (0, [.ref h0_0_0, .int v0_0_size])), (h0_0_0, .inl (c0_0_0, 600, .inl g0_0_values))] := hD
                    refine W.widen (k := 0) (n := 0) (Nat.le_of_ble_eq_true rfl) (Nat.le_of_ble_eq_true rfl) ?_
                    have hP9 := hP.sub (ws' := [(h0, .inr (3, [.ref h0_0, .int u62])), (h0_0, .inr (0, [.ref h0_0_0, .int v0_0_size])), (h0_0_0, .inl (c0_0_0, 600, .inl g0_0_values))]) [0, 1, 2] rfl
                    have hD9 := hD.sub (ws' := [(h0, .inr (3, [.ref h0_0, .int u62])), (h0_0, .inr (0, [.ref h0_0_0, .int v0_0_size])), (h0_0_0, .inl (c0_0_0, 600, .inl g0_0_values))]) [0, 1, 2] (by decide) rfl
                    have hK9 := hK.sub (tys' := [(c0_0_0, .int)]) [0] rfl
                    refine W.widen (k := 0) (n := 0) (Nat.le_of_ble_eq_true rfl) (Nat.le_of_ble_eq_true rfl) ?_
                    refine tw_ret ?_
                    exact W.iret (v := x110) hx hb hr (fun t ht hW => ⟨⟨x110, u62, rfl, hw, by rw [ht]; exact hP9, va_K.moved hW.alike hK9, hD9⟩, hS.F ht⟩) hS.2.2 zd_Re_nextNumber_82
                · have hw := hw.2 h108
                  refine lv_lload_n hx hb zd_Re_nextNumber_64 rfl (lv_at hl 1 rfl) ?_
                  refine lv_ldc2 (v := (128)) hx hb hown (htb _ zw_418) zd_Re_nextNumber_65 ?_
                  refine lv_bipush (v := 7) hx hb zd_Re_nextNumber_68 (by decide) ?_
                  refine lv_iload hx hb zd_Re_nextNumber_70 (lv_at hl 3 rfl) ?_
                  refine lv_imul hx hb zd_Re_nextNumber_72 ?_
                  refine lv_topi (fun x112 ex112 => ?_)
                  have hw := hw x112 ex112
                  refine lv_lshl hx hb zd_Re_nextNumber_73 rfl ?_
                  refine lv_topl (fun x113 ex113 => ?_)
                  have hw := hw x113 ex113
                  refine lv_lsub hx hb zd_Re_nextNumber_74 ?_
                  refine lv_topl (fun x114 ex114 => ?_)
                  have hw := hw x114 ex114
                  refine lv_goto (tgt := 79) hx hb zd_Re_nextNumber_75 (by decide) ?_
                  have hPc := hP.sub (ws' := []) [] rfl
                  have hDc := hD.sub (ws' := []) [] (by decide) rfl
                  have hKc := hK.sub (tys' := []) [] rfl
                  have hFc := va_free (wc := []) hD hS hA [] rfl
                  refine tw_calli (tw_runS (As := [.long x114]) (rest := []) ⟨hx, hb, hml, hown, htb⟩ (mt_Re_fitting l hl9 dC dI sa H.size x114 _ _ hw) (va_cwS 1 htb (zgS zw_419 zw_420 zw_12 zw_421) rfl rfl rfl (by decide +kernel) ⟨(Nat.le_of_ble_eq_true rfl), (Nat.le_of_ble_eq_true rfl)⟩) ⟨zPx_blind, zPx_pre hZ hS hFc hPc hKc hDc⟩ rfl rfl hl.1 rfl (lv_room (Nat.le_of_ble_eq_true rfl)) zd_Re_nextNumber_79 ⟨(Nat.le_of_ble_eq_true rfl), (Nat.le_of_ble_eq_true rfl)⟩) hS (fun q _ h => hFc q h) hFc (fun q _ h => hFc q h) (fun E9 ce9 q9 u115 t H1 locs ht hvm hw hB hz1 hk1 hS hce hcv hcl => ?_) (fun x116 u115 t H1 locs ht hvm hw hB hz1 hk1 hS => ?_)
                  · obtain ⟨hE, hB⟩ := hB
                    obtain ⟨hP1, hK1, hD1⟩ := hB
                    rw [ht] at hP1
                    have hK1 := va_K.moved hvm.symm hK1
                    obtain ⟨hP, hD⟩ := va_join (wr := [(h0, .inr (3, [.ref h0_0, .int u62])), (h0_0, .inr (0, [.ref h0_0_0, .int v0_0_size])), (h0_0_0, .inl (c0_0_0, 600, .inl g0_0_values))]) (w1 := []) hP hD [] [0, 1, 2] rfl rfl (by decide) (by decide) hk1 hFc hP1 hD1
                    generalize H1 = H at hP hS hce ⊢
                    have hP : va_P (dC, dI) zC [(h0, .inr (3, [.ref h0_0, .int u62])), (h0_0, .inr (0, [.ref h0_0_0, .int v0_0_size])), (h0_0_0, .inl (c0_0_0, 600, .inl g0_0_values))] H := hP
                    have hD : va_D A [(h0, .inr (3, [.ref h0_0, .int u62])), (h0_0, .inr (0, [.ref h0_0_0, .int v0_0_size])), (h0_0_0, .inl (c0_0_0, 600, .inl g0_0_values))] := hD
                    have hP9 := hP.sub (ws' := [(h0, .inr (3, [.ref h0_0, .int u62])), (h0_0, .inr (0, [.ref h0_0_0, .int v0_0_size])), (h0_0_0, .inl (c0_0_0, 600, .inl g0_0_values))]) [0, 1, 2] rfl
                    have hD9 := hD.sub (ws' := [(h0, .inr (3, [.ref h0_0, .int u62])), (h0_0, .inr (0, [.ref h0_0_0, .int v0_0_size])), (h0_0_0, .inl (c0_0_0, 600, .inl g0_0_values))]) [0, 1, 2] (by decide) rfl
                    have hK9 := hK.sub (tys' := [(c0_0_0, .int)]) [0] rfl
                    exact tw_out (E := E9) (fun x hx => (hEx x hx).elim) hlocks hce hcv hcl (fun t ht ha => ⟨(u115.1, u62), hw, ⟨hE, by rw [ht]; exact hP9, va_K.moved ha hK9, hD9⟩, hS.F ht⟩) hS.2.2 (Nat.le_of_ble_eq_true rfl) (Nat.le_of_ble_eq_true rfl)
                  · skip
                    obtain ⟨hP1, hK1, hD1⟩ := hB
                    rw [ht] at hP1
                    have hK1 := va_K.moved hvm.symm hK1
                    obtain ⟨hP, hD⟩ := va_join (wr := [(h0, .inr (3, [.ref h0_0, .int u62])), (h0_0, .inr (0, [.ref h0_0_0, .int v0_0_size])), (h0_0_0, .inl (c0_0_0, 600, .inl g0_0_values))]) (w1 := []) hP hD [] [0, 1, 2] rfl rfl (by decide) (by decide) hk1 hFc hP1 hD1
                    generalize H1 = H at hP hS ⊢
                    have hP : va_P (dC, dI) zC [(h0, .inr (3, [.ref h0_0, .int u62])), (h0_0, .inr (0, [.ref h0_0_0, .int v0_0_size])), (h0_0_0, .inl (c0_0_0, 600, .inl g0_0_values))] H := hP
                    have hD : va_D A [(h0, .inr (3, [.ref h0_0, .int u62])), (h0_0, .inr (0, [.ref h0_0_0, .int v0_0_size])), (h0_0_0, .inl (c0_0_0, 600, .inl g0_0_values))] := hD
                    refine W.widen (k := 0) (n := 0) (Nat.le_of_ble_eq_true rfl) (Nat.le_of_ble_eq_true rfl) ?_
                    have hP9 := hP.sub (ws' := [(h0, .inr (3, [.ref h0_0, .int u62])), (h0_0, .inr (0, [.ref h0_0_0, .int v0_0_size])), (h0_0_0, .inl (c0_0_0, 600, .inl g0_0_values))]) [0, 1, 2] rfl
                    have hD9 := hD.sub (ws' := [(h0, .inr (3, [.ref h0_0, .int u62])), (h0_0, .inr (0, [.ref h0_0_0, .int v0_0_size])), (h0_0_0, .inl (c0_0_0, 600, .inl g0_0_values))]) [0, 1, 2] (by decide) rfl
                    have hK9 := hK.sub (tys' := [(c0_0_0, .int)]) [0] rfl
                    refine W.widen (k := 0) (n := 0) (Nat.le_of_ble_eq_true rfl) (Nat.le_of_ble_eq_true rfl) ?_
                    refine tw_ret ?_
                    exact W.iret (v := x116) hx hb hr (fun t ht hW => ⟨⟨x116, u62, rfl, hw, by rw [ht]; exact hP9, va_K.moved hW.alike hK9, hD9⟩, hS.F ht⟩) hS.2.2 zd_Re_nextNumber_82
  obtain ⟨k, hw⟩ := hw
  exact lp5 k v0_at 0 0 ls H _ hl hP hD hS hw
abbrev zo_Re_nextUnsigned : Room := { frames := 8, cells := 1, slots := 6, locals := 137 }
abbrev zb_Re_nextUnsigned (dC : Nat → ClassId) (dI : Nat → Nat → Nat) (A : Nat → Prop) (h0 h0_0 h0_0_0 : Nat) (c0_0_0 : ClassId) (v0_0_size : Int32) (g0_0_values : Nat → Int32) (u : Int32) (t : State) : Prop := va_P (dC, dI) zC [(h0, .inr (3, [.ref h0_0, .int u])), (h0_0, .inr (0, [.ref h0_0_0, .int v0_0_size])), (h0_0_0, .inl (c0_0_0, 600, .inl g0_0_values))] t.heap ∧ va_K (dC, dI) zC [(c0_0_0, .int)] t ∧ va_D A [(h0, .inr (3, [.ref h0_0, .int u])), (h0_0, .inr (0, [.ref h0_0_0, .int v0_0_size])), (h0_0_0, .inl (c0_0_0, 600, .inl g0_0_values))]
abbrev zx_Re_nextUnsigned (dC : Nat → ClassId) (dI : Nat → Nat → Nat) (A : Nat → Prop) (h0 h0_0 h0_0_0 : Nat) (c0_0_0 : ClassId) (v0_0_size : Int32) (g0_0_values : Nat → Int32) (E : String) (u : Nat × Int32) (t : State) : Prop := E = zE u.1 ∧ zb_Re_nextUnsigned dC dI A h0 h0_0 h0_0_0 c0_0_0 v0_0_size g0_0_values u.2 t
set_option maxHeartbeats 4000000 in
set_option maxRecDepth 100000 in
theorem mt_Re_nextUnsigned (l : Launch) (hl9 : l.stackTraces = false) (dC : Nat → ClassId) (dI : Nat → Nat → Nat) (sa : Nat → Nat) (h0 h0_0 h0_0_0 sz : Nat) (c0_0_0 : ClassId) (v0_at : Int32) (v0_0_size : Int32) (g0_0_values : Nat → Int32) (post : Int32 → Int32 → Prop) (postX : Nat × Int32 → Prop) (hw : wp_Re_nextUnsigned v0_at v0_0_size g0_0_values post postX) : tw_Met l zy_Re_nextUnsigned zs_Re_nextUnsigned zo_Re_nextUnsigned (zPx dC dI sa [.ref h0] sz [(h0, .inr (3, [.ref h0_0, .int v0_at])), (h0_0, .inr (0, [.ref h0_0_0, .int v0_0_size])), (h0_0_0, .inl (c0_0_0, 600, .inl g0_0_values))] [(c0_0_0, .int)]) (va_Qi (fun (r : Int32) (u : Int32) => post r u) (zb_Re_nextUnsigned dC dI (va_A [(h0, .inr (3, [.ref h0_0, .int v0_at])), (h0_0, .inr (0, [.ref h0_0_0, .int v0_0_size])), (h0_0_0, .inl (c0_0_0, 600, .inl g0_0_values))] sz) h0 h0_0 h0_0_0 c0_0_0 v0_0_size g0_0_values) (va_A [(h0, .inr (3, [.ref h0_0, .int v0_at])), (h0_0, .inr (0, [.ref h0_0_0, .int v0_0_size])), (h0_0_0, .inl (c0_0_0, 600, .inl g0_0_values))] sz)) (vx_X (fun (u : Nat × Int32) => postX u) (zx_Re_nextUnsigned dC dI (va_A [(h0, .inr (3, [.ref h0_0, .int v0_at])), (h0_0, .inr (0, [.ref h0_0_0, .int v0_0_size])), (h0_0_0, .inl (c0_0_0, 600, .inl g0_0_values))] sz) h0 h0_0 h0_0_0 c0_0_0 v0_0_size g0_0_values) (va_A [(h0, .inr (3, [.ref h0_0, .int v0_at])), (h0_0, .inr (0, [.ref h0_0_0, .int v0_0_size])), (h0_0_0, .inl (c0_0_0, 600, .inl g0_0_values))] sz)) 0 0 1 6 (va_A [(h0, .inr (3, [.ref h0_0, .int v0_at])), (h0_0, .inr (0, [.ref h0_0_0, .int v0_0_size])), (h0_0_0, .inl (c0_0_0, 600, .inl g0_0_values))] sz) := by
  unfold wp_Re_nextUnsigned at hw
  refine tw_ofW (cc := zc_Re_nextUnsigned) (maxL := 1) (ret := (some .int)) (by decide) rfl ?_
  intro p e s m args below meth c s₁ B hml hEx hv
  obtain ⟨rfl, hsz, hP, hK, hD0, hZ⟩ := hv
  have hx := B.exec
  have hb := B.bytes
  have hr := B.returns
  have hts := atoms_spec (ws := zs_Re_nextUnsigned) B.pre
  have htb := fun w (h : w ∈ zB) => hts w (List.mem_cons_of_mem _ h)
  have hown : s.vm.findClass zr_3 = some m.cls := findClass_of_methodNamed B.named
  have hlocks := B.notSynchronized
  subst hsz
  have hD := hD0.self (sz := s.heap.size)
  generalize hAe : va_A [(h0, .inr (3, [.ref h0_0, .int v0_at])), (h0_0, .inr (0, [.ref h0_0_0, .int v0_0_size])), (h0_0_0, .inl (c0_0_0, 600, .inl g0_0_values))] s.heap.size = A at hD hZ ⊢
  have hA : ∀ q : Nat, s.heap.size ≤ q → A q := fun q h => by rw [← hAe]; exact Or.inr h
  clear hAe hD0
  have hl := lv_entry ([.ref h0]) (n := 1) (Nat.le_of_ble_eq_true rfl)
  rw [lg_entry_eq]
  generalize (lg_sl ([.ref h0]) ++ List.replicate (1 - (lg_sl ([.ref h0])).length) Slot.unset).toArray = ls at hl ⊢
  have hl : lv_has ls 1 [(0, .ref h0)] := hl
  obtain ⟨H, hH⟩ : ∃ H, H = s.heap := ⟨_, rfl⟩
  have hS : va_S A s.heap H [] := by rw [hH]; exact va_S.rf
  rw [← hH] at hP ⊢
  refine lv_aload_n hx hb zd_Re_nextUnsigned_0 rfl (lv_at hl 0 rfl) ?_
  refine lv_iconst (v := 0) hx hb zd_Re_nextUnsigned_1 (by decide) ?_
  have hPc := hP.sub (ws' := [(h0, .inr (3, [.ref h0_0, .int v0_at])), (h0_0, .inr (0, [.ref h0_0_0, .int v0_0_size])), (h0_0_0, .inl (c0_0_0, 600, .inl g0_0_values))]) [0, 1, 2] rfl
  have hDc := hD.sub (ws' := [(h0, .inr (3, [.ref h0_0, .int v0_at])), (h0_0, .inr (0, [.ref h0_0_0, .int v0_0_size])), (h0_0_0, .inl (c0_0_0, 600, .inl g0_0_values))]) [0, 1, 2] (by decide) rfl
  have hKc := hK.sub (tys' := [(c0_0_0, .int)]) [0] rfl
  have hFc := va_free (wc := [(h0, .inr (3, [.ref h0_0, .int v0_at])), (h0_0, .inr (0, [.ref h0_0_0, .int v0_0_size])), (h0_0_0, .inl (c0_0_0, 600, .inl g0_0_values))]) hD hS hA [0, 1, 2] rfl
  refine tw_calli (tw_runV (As := [.int 0]) (rest := []) ⟨hx, hb, hml, hown, htb⟩ (mt_Re_nextNumber l hl9 dC dI sa h0 h0_0 h0_0_0 H.size c0_0_0 v0_at v0_0_size g0_0_values 0 _ _ hw) (cwV 1 htb (zgV zw_413 zw_415 zp_Re_nextNumber zw_12 zw_416) rfl rfl rfl (by decide +kernel) ⟨(Nat.le_of_ble_eq_true rfl), (Nat.le_of_ble_eq_true rfl)⟩) ⟨zPx_blind, va_recv (ci := 3) (q0 := 0) hK hP rfl rfl, zPx_pre hZ hS hFc hPc hKc hDc⟩ rfl rfl hl.1 rfl (lv_room (Nat.le_of_ble_eq_true rfl)) zd_Re_nextUnsigned_2 ⟨(Nat.le_of_ble_eq_true rfl), (Nat.le_of_ble_eq_true rfl)⟩) hS (fun q _ h => hFc q h) hFc (fun q _ h => hFc q h) (fun E9 ce9 q9 u1 t H1 locs ht hvm hw hB hz1 hk1 hS hce hcv hcl => ?_) (fun x2 u1 t H1 locs ht hvm hw hB hz1 hk1 hS => ?_)
  · obtain ⟨hE, hB⟩ := hB
    obtain ⟨hP1, hK1, hD1⟩ := hB
    rw [ht] at hP1
    have hK1 := va_K.moved hvm.symm hK1
    obtain ⟨hP, hD⟩ := va_join (wr := []) (w1 := [(h0, .inr (3, [.ref h0_0, .int u1.2])), (h0_0, .inr (0, [.ref h0_0_0, .int v0_0_size])), (h0_0_0, .inl (c0_0_0, 600, .inl g0_0_values))]) hP hD [0, 1, 2] [] rfl rfl (by decide) (by decide) hk1 hFc hP1 hD1
    generalize H1 = H at hP hS hce ⊢
    have hP : va_P (dC, dI) zC [(h0, .inr (3, [.ref h0_0, .int u1.2])), (h0_0, .inr (0, [.ref h0_0_0, .int v0_0_size])), (h0_0_0, .inl (c0_0_0, 600, .inl g0_0_values))] H := hP
    have hD : va_D A [(h0, .inr (3, [.ref h0_0, .int u1.2])), (h0_0, .inr (0, [.ref h0_0_0, .int v0_0_size])), (h0_0_0, .inl (c0_0_0, 600, .inl g0_0_values))] := hD
    have hP9 := hP.sub (ws' := [(h0, .inr (3, [.ref h0_0, .int u1.2])), (h0_0, .inr (0, [.ref h0_0_0, .int v0_0_size])), (h0_0_0, .inl (c0_0_0, 600, .inl g0_0_values))]) [0, 1, 2] rfl
    have hD9 := hD.sub (ws' := [(h0, .inr (3, [.ref h0_0, .int u1.2])), (h0_0, .inr (0, [.ref h0_0_0, .int v0_0_size])), (h0_0_0, .inl (c0_0_0, 600, .inl g0_0_values))]) [0, 1, 2] (by decide) rfl
    have hK9 := hK.sub (tys' := [(c0_0_0, .int)]) [0] rfl
    exact tw_out (E := E9) (fun x hx => (hEx x hx).elim) hlocks hce hcv hcl (fun t ht ha => ⟨(u1.1, u1.2), hw, ⟨hE, by rw [ht]; exact hP9, va_K.moved ha hK9, hD9⟩, hS.F ht⟩) hS.2.2 (Nat.le_of_ble_eq_true rfl) (Nat.le_of_ble_eq_true rfl)
  · skip
    obtain ⟨hP1, hK1, hD1⟩ := hB
    rw [ht] at hP1
    have hK1 := va_K.moved hvm.symm hK1
    obtain ⟨hP, hD⟩ := va_join (wr := []) (w1 := [(h0, .inr (3, [.ref h0_0, .int u1])), (h0_0, .inr (0, [.ref h0_0_0, .int v0_0_size])), (h0_0_0, .inl (c0_0_0, 600, .inl g0_0_values))]) hP hD [0, 1, 2] [] rfl rfl (by decide) (by decide) hk1 hFc hP1 hD1
    generalize H1 = H at hP hS ⊢
    have hP : va_P (dC, dI) zC [(h0, .inr (3, [.ref h0_0, .int u1])), (h0_0, .inr (0, [.ref h0_0_0, .int v0_0_size])), (h0_0_0, .inl (c0_0_0, 600, .inl g0_0_values))] H := hP
    have hD : va_D A [(h0, .inr (3, [.ref h0_0, .int u1])), (h0_0, .inr (0, [.ref h0_0_0, .int v0_0_size])), (h0_0_0, .inl (c0_0_0, 600, .inl g0_0_values))] := hD
    refine W.widen (k := 0) (n := 0) (Nat.le_of_ble_eq_true rfl) (Nat.le_of_ble_eq_true rfl) ?_
    have hP9 := hP.sub (ws' := [(h0, .inr (3, [.ref h0_0, .int u1])), (h0_0, .inr (0, [.ref h0_0_0, .int v0_0_size])), (h0_0_0, .inl (c0_0_0, 600, .inl g0_0_values))]) [0, 1, 2] rfl
    have hD9 := hD.sub (ws' := [(h0, .inr (3, [.ref h0_0, .int u1])), (h0_0, .inr (0, [.ref h0_0_0, .int v0_0_size])), (h0_0_0, .inl (c0_0_0, 600, .inl g0_0_values))]) [0, 1, 2] (by decide) rfl
    have hK9 := hK.sub (tys' := [(c0_0_0, .int)]) [0] rfl
    refine W.widen (k := 0) (n := 0) (Nat.le_of_ble_eq_true rfl) (Nat.le_of_ble_eq_true rfl) ?_
    refine tw_ret ?_
    exact W.iret (v := x2) hx hb hr (fun t ht hW => ⟨⟨x2, u1, rfl, hw, by rw [ht]; exact hP9, va_K.moved hW.alike hK9, hD9⟩, hS.F ht⟩) hS.2.2 zd_Re_nextUnsigned_5
abbrev zo_Re_nextSigned : Room := { frames := 8, cells := 1, slots := 6, locals := 137 }
abbrev zb_Re_nextSigned (dC : Nat → ClassId) (dI : Nat → Nat → Nat) (A : Nat → Prop) (h0 h0_0 h0_0_0 : Nat) (c0_0_0 : ClassId) (v0_0_size : Int32) (g0_0_values : Nat → Int32) (u : Int32) (t : State) : Prop := va_P (dC, dI) zC [(h0, .inr (3, [.ref h0_0, .int u])), (h0_0, .inr (0, [.ref h0_0_0, .int v0_0_size])), (h0_0_0, .inl (c0_0_0, 600, .inl g0_0_values))] t.heap ∧ va_K (dC, dI) zC [(c0_0_0, .int)] t ∧ va_D A [(h0, .inr (3, [.ref h0_0, .int u])), (h0_0, .inr (0, [.ref h0_0_0, .int v0_0_size])), (h0_0_0, .inl (c0_0_0, 600, .inl g0_0_values))]
abbrev zx_Re_nextSigned (dC : Nat → ClassId) (dI : Nat → Nat → Nat) (A : Nat → Prop) (h0 h0_0 h0_0_0 : Nat) (c0_0_0 : ClassId) (v0_0_size : Int32) (g0_0_values : Nat → Int32) (E : String) (u : Nat × Int32) (t : State) : Prop := E = zE u.1 ∧ zb_Re_nextSigned dC dI A h0 h0_0 h0_0_0 c0_0_0 v0_0_size g0_0_values u.2 t
set_option maxHeartbeats 4000000 in
set_option maxRecDepth 100000 in
theorem mt_Re_nextSigned (l : Launch) (hl9 : l.stackTraces = false) (dC : Nat → ClassId) (dI : Nat → Nat → Nat) (sa : Nat → Nat) (h0 h0_0 h0_0_0 sz : Nat) (c0_0_0 : ClassId) (v0_at : Int32) (v0_0_size : Int32) (g0_0_values : Nat → Int32) (post : Int32 → Int32 → Prop) (postX : Nat × Int32 → Prop) (hw : wp_Re_nextSigned v0_at v0_0_size g0_0_values post postX) : tw_Met l zy_Re_nextSigned zs_Re_nextSigned zo_Re_nextSigned (zPx dC dI sa [.ref h0] sz [(h0, .inr (3, [.ref h0_0, .int v0_at])), (h0_0, .inr (0, [.ref h0_0_0, .int v0_0_size])), (h0_0_0, .inl (c0_0_0, 600, .inl g0_0_values))] [(c0_0_0, .int)]) (va_Qi (fun (r : Int32) (u : Int32) => post r u) (zb_Re_nextSigned dC dI (va_A [(h0, .inr (3, [.ref h0_0, .int v0_at])), (h0_0, .inr (0, [.ref h0_0_0, .int v0_0_size])), (h0_0_0, .inl (c0_0_0, 600, .inl g0_0_values))] sz) h0 h0_0 h0_0_0 c0_0_0 v0_0_size g0_0_values) (va_A [(h0, .inr (3, [.ref h0_0, .int v0_at])), (h0_0, .inr (0, [.ref h0_0_0, .int v0_0_size])), (h0_0_0, .inl (c0_0_0, 600, .inl g0_0_values))] sz)) (vx_X (fun (u : Nat × Int32) => postX u) (zx_Re_nextSigned dC dI (va_A [(h0, .inr (3, [.ref h0_0, .int v0_at])), (h0_0, .inr (0, [.ref h0_0_0, .int v0_0_size])), (h0_0_0, .inl (c0_0_0, 600, .inl g0_0_values))] sz) h0 h0_0 h0_0_0 c0_0_0 v0_0_size g0_0_values) (va_A [(h0, .inr (3, [.ref h0_0, .int v0_at])), (h0_0, .inr (0, [.ref h0_0_0, .int v0_0_size])), (h0_0_0, .inl (c0_0_0, 600, .inl g0_0_values))] sz)) 0 0 1 6 (va_A [(h0, .inr (3, [.ref h0_0, .int v0_at])), (h0_0, .inr (0, [.ref h0_0_0, .int v0_0_size])), (h0_0_0, .inl (c0_0_0, 600, .inl g0_0_values))] sz) := by
  unfold wp_Re_nextSigned at hw
  refine tw_ofW (cc := zc_Re_nextSigned) (maxL := 1) (ret := (some .int)) (by decide) rfl ?_
  intro p e s m args below meth c s₁ B hml hEx hv
  obtain ⟨rfl, hsz, hP, hK, hD0, hZ⟩ := hv
  have hx := B.exec
  have hb := B.bytes
  have hr := B.returns
  have hts := atoms_spec (ws := zs_Re_nextSigned) B.pre
  have htb := fun w (h : w ∈ zB) => hts w (List.mem_cons_of_mem _ h)
  have hown : s.vm.findClass zr_3 = some m.cls := findClass_of_methodNamed B.named
  have hlocks := B.notSynchronized
  subst hsz
  have hD := hD0.self (sz := s.heap.size)
  generalize hAe : va_A [(h0, .inr (3, [.ref h0_0, .int v0_at])), (h0_0, .inr (0, [.ref h0_0_0, .int v0_0_size])), (h0_0_0, .inl (c0_0_0, 600, .inl g0_0_values))] s.heap.size = A at hD hZ ⊢
  have hA : ∀ q : Nat, s.heap.size ≤ q → A q := fun q h => by rw [← hAe]; exact Or.inr h
  clear hAe hD0
  have hl := lv_entry ([.ref h0]) (n := 1) (Nat.le_of_ble_eq_true rfl)
  rw [lg_entry_eq]
  generalize (lg_sl ([.ref h0]) ++ List.replicate (1 - (lg_sl ([.ref h0])).length) Slot.unset).toArray = ls at hl ⊢
  have hl : lv_has ls 1 [(0, .ref h0)] := hl
  obtain ⟨H, hH⟩ : ∃ H, H = s.heap := ⟨_, rfl⟩
  have hS : va_S A s.heap H [] := by rw [hH]; exact va_S.rf
  rw [← hH] at hP ⊢
  refine lv_aload_n hx hb zd_Re_nextSigned_0 rfl (lv_at hl 0 rfl) ?_
  refine lv_iconst (v := 1) hx hb zd_Re_nextSigned_1 (by decide) ?_
  have hPc := hP.sub (ws' := [(h0, .inr (3, [.ref h0_0, .int v0_at])), (h0_0, .inr (0, [.ref h0_0_0, .int v0_0_size])), (h0_0_0, .inl (c0_0_0, 600, .inl g0_0_values))]) [0, 1, 2] rfl
  have hDc := hD.sub (ws' := [(h0, .inr (3, [.ref h0_0, .int v0_at])), (h0_0, .inr (0, [.ref h0_0_0, .int v0_0_size])), (h0_0_0, .inl (c0_0_0, 600, .inl g0_0_values))]) [0, 1, 2] (by decide) rfl
  have hKc := hK.sub (tys' := [(c0_0_0, .int)]) [0] rfl
  have hFc := va_free (wc := [(h0, .inr (3, [.ref h0_0, .int v0_at])), (h0_0, .inr (0, [.ref h0_0_0, .int v0_0_size])), (h0_0_0, .inl (c0_0_0, 600, .inl g0_0_values))]) hD hS hA [0, 1, 2] rfl
  refine tw_calli (tw_runV (As := [.int 1]) (rest := []) ⟨hx, hb, hml, hown, htb⟩ (mt_Re_nextNumber l hl9 dC dI sa h0 h0_0 h0_0_0 H.size c0_0_0 v0_at v0_0_size g0_0_values 1 _ _ hw) (cwV 1 htb (zgV zw_413 zw_415 zp_Re_nextNumber zw_12 zw_416) rfl rfl rfl (by decide +kernel) ⟨(Nat.le_of_ble_eq_true rfl), (Nat.le_of_ble_eq_true rfl)⟩) ⟨zPx_blind, va_recv (ci := 3) (q0 := 0) hK hP rfl rfl, zPx_pre hZ hS hFc hPc hKc hDc⟩ rfl rfl hl.1 rfl (lv_room (Nat.le_of_ble_eq_true rfl)) zd_Re_nextSigned_2 ⟨(Nat.le_of_ble_eq_true rfl), (Nat.le_of_ble_eq_true rfl)⟩) hS (fun q _ h => hFc q h) hFc (fun q _ h => hFc q h) (fun E9 ce9 q9 u1 t H1 locs ht hvm hw hB hz1 hk1 hS hce hcv hcl => ?_) (fun x2 u1 t H1 locs ht hvm hw hB hz1 hk1 hS => ?_)
  · obtain ⟨hE, hB⟩ := hB
    obtain ⟨hP1, hK1, hD1⟩ := hB
    rw [ht] at hP1
    have hK1 := va_K.moved hvm.symm hK1
    obtain ⟨hP, hD⟩ := va_join (wr := []) (w1 := [(h0, .inr (3, [.ref h0_0, .int u1.2])), (h0_0, .inr (0, [.ref h0_0_0, .int v0_0_size])), (h0_0_0, .inl (c0_0_0, 600, .inl g0_0_values))]) hP hD [0, 1, 2] [] rfl rfl (by decide) (by decide) hk1 hFc hP1 hD1
    generalize H1 = H at hP hS hce ⊢
    have hP : va_P (dC, dI) zC [(h0, .inr (3, [.ref h0_0, .int u1.2])), (h0_0, .inr (0, [.ref h0_0_0, .int v0_0_size])), (h0_0_0, .inl (c0_0_0, 600, .inl g0_0_values))] H := hP
    have hD : va_D A [(h0, .inr (3, [.ref h0_0, .int u1.2])), (h0_0, .inr (0, [.ref h0_0_0, .int v0_0_size])), (h0_0_0, .inl (c0_0_0, 600, .inl g0_0_values))] := hD
    have hP9 := hP.sub (ws' := [(h0, .inr (3, [.ref h0_0, .int u1.2])), (h0_0, .inr (0, [.ref h0_0_0, .int v0_0_size])), (h0_0_0, .inl (c0_0_0, 600, .inl g0_0_values))]) [0, 1, 2] rfl
    have hD9 := hD.sub (ws' := [(h0, .inr (3, [.ref h0_0, .int u1.2])), (h0_0, .inr (0, [.ref h0_0_0, .int v0_0_size])), (h0_0_0, .inl (c0_0_0, 600, .inl g0_0_values))]) [0, 1, 2] (by decide) rfl
    have hK9 := hK.sub (tys' := [(c0_0_0, .int)]) [0] rfl
    exact tw_out (E := E9) (fun x hx => (hEx x hx).elim) hlocks hce hcv hcl (fun t ht ha => ⟨(u1.1, u1.2), hw, ⟨hE, by rw [ht]; exact hP9, va_K.moved ha hK9, hD9⟩, hS.F ht⟩) hS.2.2 (Nat.le_of_ble_eq_true rfl) (Nat.le_of_ble_eq_true rfl)
  · skip
    obtain ⟨hP1, hK1, hD1⟩ := hB
    rw [ht] at hP1
    have hK1 := va_K.moved hvm.symm hK1
    obtain ⟨hP, hD⟩ := va_join (wr := []) (w1 := [(h0, .inr (3, [.ref h0_0, .int u1])), (h0_0, .inr (0, [.ref h0_0_0, .int v0_0_size])), (h0_0_0, .inl (c0_0_0, 600, .inl g0_0_values))]) hP hD [0, 1, 2] [] rfl rfl (by decide) (by decide) hk1 hFc hP1 hD1
    generalize H1 = H at hP hS ⊢
    have hP : va_P (dC, dI) zC [(h0, .inr (3, [.ref h0_0, .int u1])), (h0_0, .inr (0, [.ref h0_0_0, .int v0_0_size])), (h0_0_0, .inl (c0_0_0, 600, .inl g0_0_values))] H := hP
    have hD : va_D A [(h0, .inr (3, [.ref h0_0, .int u1])), (h0_0, .inr (0, [.ref h0_0_0, .int v0_0_size])), (h0_0_0, .inl (c0_0_0, 600, .inl g0_0_values))] := hD
    refine W.widen (k := 0) (n := 0) (Nat.le_of_ble_eq_true rfl) (Nat.le_of_ble_eq_true rfl) ?_
    have hP9 := hP.sub (ws' := [(h0, .inr (3, [.ref h0_0, .int u1])), (h0_0, .inr (0, [.ref h0_0_0, .int v0_0_size])), (h0_0_0, .inl (c0_0_0, 600, .inl g0_0_values))]) [0, 1, 2] rfl
    have hD9 := hD.sub (ws' := [(h0, .inr (3, [.ref h0_0, .int u1])), (h0_0, .inr (0, [.ref h0_0_0, .int v0_0_size])), (h0_0_0, .inl (c0_0_0, 600, .inl g0_0_values))]) [0, 1, 2] (by decide) rfl
    have hK9 := hK.sub (tys' := [(c0_0_0, .int)]) [0] rfl
    refine W.widen (k := 0) (n := 0) (Nat.le_of_ble_eq_true rfl) (Nat.le_of_ble_eq_true rfl) ?_
    refine tw_ret ?_
    exact W.iret (v := x2) hx hb hr (fun t ht hW => ⟨⟨x2, u1, rfl, hw, by rw [ht]; exact hP9, va_K.moved hW.alike hK9, hD9⟩, hS.F ht⟩) hS.2.2 zd_Re_nextSigned_5
abbrev zo_Re_nextFixed : Room := { frames := 7, cells := 1, slots := 6, locals := 111 }
abbrev zb_Re_nextFixed (dC : Nat → ClassId) (dI : Nat → Nat → Nat) (A : Nat → Prop) (h0 h0_0 h0_0_0 : Nat) (c0_0_0 : ClassId) (v0_0_size : Int32) (g0_0_values : Nat → Int32) (u : Int32) (t : State) : Prop := va_P (dC, dI) zC [(h0, .inr (3, [.ref h0_0, .int u])), (h0_0, .inr (0, [.ref h0_0_0, .int v0_0_size])), (h0_0_0, .inl (c0_0_0, 600, .inl g0_0_values))] t.heap ∧ va_K (dC, dI) zC [(c0_0_0, .int)] t ∧ va_D A [(h0, .inr (3, [.ref h0_0, .int u])), (h0_0, .inr (0, [.ref h0_0_0, .int v0_0_size])), (h0_0_0, .inl (c0_0_0, 600, .inl g0_0_values))]
abbrev zx_Re_nextFixed (dC : Nat → ClassId) (dI : Nat → Nat → Nat) (A : Nat → Prop) (h0 h0_0 h0_0_0 : Nat) (c0_0_0 : ClassId) (v0_0_size : Int32) (g0_0_values : Nat → Int32) (E : String) (u : Nat × Int32) (t : State) : Prop := E = zE u.1 ∧ zb_Re_nextFixed dC dI A h0 h0_0 h0_0_0 c0_0_0 v0_0_size g0_0_values u.2 t
set_option maxHeartbeats 4000000 in
set_option maxRecDepth 100000 in
theorem mt_Re_nextFixed (l : Launch) (hl9 : l.stackTraces = false) (dC : Nat → ClassId) (dI : Nat → Nat → Nat) (sa : Nat → Nat) (h0 h0_0 h0_0_0 sz : Nat) (c0_0_0 : ClassId) (v0_at : Int32) (v0_0_size : Int32) (g0_0_values : Nat → Int32) (p0 : Int32) (post : Int64 → Int32 → Prop) (postX : Nat × Int32 → Prop) (hw : wp_Re_nextFixed v0_at v0_0_size g0_0_values p0 post postX) : tw_Met l zy_Re_nextFixed zs_Re_nextFixed zo_Re_nextFixed (zPx dC dI sa [.ref h0, .int p0] sz [(h0, .inr (3, [.ref h0_0, .int v0_at])), (h0_0, .inr (0, [.ref h0_0_0, .int v0_0_size])), (h0_0_0, .inl (c0_0_0, 600, .inl g0_0_values))] [(c0_0_0, .int)]) (va_Ql (fun (r : Int64) (u : Int32) => post r u) (zb_Re_nextFixed dC dI (va_A [(h0, .inr (3, [.ref h0_0, .int v0_at])), (h0_0, .inr (0, [.ref h0_0_0, .int v0_0_size])), (h0_0_0, .inl (c0_0_0, 600, .inl g0_0_values))] sz) h0 h0_0 h0_0_0 c0_0_0 v0_0_size g0_0_values) (va_A [(h0, .inr (3, [.ref h0_0, .int v0_at])), (h0_0, .inr (0, [.ref h0_0_0, .int v0_0_size])), (h0_0_0, .inl (c0_0_0, 600, .inl g0_0_values))] sz)) (vx_X (fun (u : Nat × Int32) => postX u) (zx_Re_nextFixed dC dI (va_A [(h0, .inr (3, [.ref h0_0, .int v0_at])), (h0_0, .inr (0, [.ref h0_0_0, .int v0_0_size])), (h0_0_0, .inl (c0_0_0, 600, .inl g0_0_values))] sz) h0 h0_0 h0_0_0 c0_0_0 v0_0_size g0_0_values) (va_A [(h0, .inr (3, [.ref h0_0, .int v0_at])), (h0_0, .inr (0, [.ref h0_0_0, .int v0_0_size])), (h0_0_0, .inl (c0_0_0, 600, .inl g0_0_values))] sz)) 0 0 1 6 (va_A [(h0, .inr (3, [.ref h0_0, .int v0_at])), (h0_0, .inr (0, [.ref h0_0_0, .int v0_0_size])), (h0_0_0, .inl (c0_0_0, 600, .inl g0_0_values))] sz) := by
  unfold wp_Re_nextFixed at hw
  refine tw_ofW (cc := zc_Re_nextFixed) (maxL := 5) (ret := (some .long)) (by decide) rfl ?_
  intro p e s m args below meth c s₁ B hml hEx hv
  obtain ⟨rfl, hsz, hP, hK, hD0, hZ⟩ := hv
  have hx := B.exec
  have hb := B.bytes
  have hr := B.returns
  have hts := atoms_spec (ws := zs_Re_nextFixed) B.pre
  have htb := fun w (h : w ∈ zB) => hts w (List.mem_cons_of_mem _ h)
  have hown : s.vm.findClass zr_3 = some m.cls := findClass_of_methodNamed B.named
  have hlocks := B.notSynchronized
  subst hsz
  have hD := hD0.self (sz := s.heap.size)
  generalize hAe : va_A [(h0, .inr (3, [.ref h0_0, .int v0_at])), (h0_0, .inr (0, [.ref h0_0_0, .int v0_0_size])), (h0_0_0, .inl (c0_0_0, 600, .inl g0_0_values))] s.heap.size = A at hD hZ ⊢
  have hA : ∀ q : Nat, s.heap.size ≤ q → A q := fun q h => by rw [← hAe]; exact Or.inr h
  clear hAe hD0
  have hl := lv_entry ([.ref h0, .int p0]) (n := 5) (Nat.le_of_ble_eq_true rfl)
  rw [lg_entry_eq]
  generalize (lg_sl ([.ref h0, .int p0]) ++ List.replicate (5 - (lg_sl ([.ref h0, .int p0])).length) Slot.unset).toArray = ls at hl ⊢
  have hl : lv_has ls 5 [(0, .ref h0), (1, .int p0)] := hl
  obtain ⟨H, hH⟩ : ∃ H, H = s.heap := ⟨_, rfl⟩
  have hS : va_S A s.heap H [] := by rw [hH]; exact va_S.rf
  rw [← hH] at hP ⊢
  refine lv_lconst (v := 0) hx hb zd_Re_nextFixed_0 (by decide) ?_
  refine lv_lstore_n (i := 2) (lv' := [(2, .long 0), (0, .ref h0), (1, .int p0)]) hx hb zd_Re_nextFixed_1 rfl hl (by decide) rfl (fun ls hl => ?_)
  refine lv_iconst (v := 0) hx hb zd_Re_nextFixed_2 (by decide) ?_
  refine lv_istore (i := 4) (lv' := [(4, .int 0), (2, .long 0), (0, .ref h0), (1, .int p0)]) hx hb zd_Re_nextFixed_3 hl (by decide) rfl (fun ls hl => ?_)
  have lp5 : ∀ (k : Nat) (v10 : Int32) (v11 : Int64) (v12 : Int32) (ls : Array Slot) (H : Heap) (locs : List Loc), lv_has ls 5 [(4, .int v12), (2, .long v11), (0, .ref h0), (1, .int p0)] → va_P (dC, dI) zC [(h0, .inr (3, [.ref h0_0, .int v10])), (h0_0, .inr (0, [.ref h0_0_0, .int v0_0_size])), (h0_0_0, .inl (c0_0_0, 600, .inl g0_0_values))] H → va_D A [(h0, .inr (3, [.ref h0_0, .int v10])), (h0_0, .inr (0, [.ref h0_0_0, .int v0_0_size])), (h0_0_0, .inl (c0_0_0, 600, .inl g0_0_values))] → va_S A s.heap H locs → wl_Re_nextFixed_5 v0_0_size g0_0_values p0 post postX k v10 v11 v12 → W p l e (headSpec zs_Re_nextFixed zo_Re_nextFixed).room s m [.ref h0, .int p0].toArray below meth c H locs 0 0 (tw_MQ below (va_Ql (fun (r : Int64) (u : Int32) => post r u) (zb_Re_nextFixed dC dI A h0 h0_0 h0_0_0 c0_0_0 v0_0_size g0_0_values) A) (vx_X (fun (u : Nat × Int32) => postX u) (zx_Re_nextFixed dC dI A h0 h0_0 h0_0_0 c0_0_0 v0_0_size g0_0_values) A) [.ref h0, .int p0].toArray s 0 0 1 6 A) (F0 m 5 ls []) := by
    intro k
    induction k with
    | zero => intro v10 v11 v12 ls H locs hl hP hD hS hw; exact False.elim hw
    | succ k ih =>
      intro v10 v11 v12 ls H locs hl hP hD hS hw
      refine lv_iload hx hb zd_Re_nextFixed_5 (lv_at hl 0 rfl) ?_
      refine lv_iload_n hx hb zd_Re_nextFixed_7 rfl (lv_at hl 3 rfl) ?_
      refine lv_icmp_ge (tgt := 31) hx hb zd_Re_nextFixed_8 (by decide) (fun h13 => ?_) (fun h13 => ?_)
      · have hw := hw.1 h13
        refine lv_lload_n hx hb zd_Re_nextFixed_31 rfl (lv_at hl 1 rfl) ?_
        have hP9 := hP.sub (ws' := [(h0, .inr (3, [.ref h0_0, .int v10])), (h0_0, .inr (0, [.ref h0_0_0, .int v0_0_size])), (h0_0_0, .inl (c0_0_0, 600, .inl g0_0_values))]) [0, 1, 2] rfl
        have hD9 := hD.sub (ws' := [(h0, .inr (3, [.ref h0_0, .int v10])), (h0_0, .inr (0, [.ref h0_0_0, .int v0_0_size])), (h0_0_0, .inl (c0_0_0, 600, .inl g0_0_values))]) [0, 1, 2] (by decide) rfl
        have hK9 := hK.sub (tys' := [(c0_0_0, .int)]) [0] rfl
        refine W.widen (k := 0) (n := 0) (Nat.le_of_ble_eq_true rfl) (Nat.le_of_ble_eq_true rfl) ?_
        refine tw_ret ?_
        exact W.lret (v := v11) hx hb hr (fun t ht hW => ⟨⟨v11, v10, rfl, hw, by rw [ht]; exact hP9, va_K.moved hW.alike hK9, hD9⟩, hS.F ht⟩) hS.2.2 zd_Re_nextFixed_32
      · have hw := hw.2 h13
        refine lv_lload_n hx hb zd_Re_nextFixed_11 rfl (lv_at hl 1 rfl) ?_
        refine lv_aload_n hx hb zd_Re_nextFixed_12 rfl (lv_at hl 2 rfl) ?_
        have hPc := hP.sub (ws' := [(h0, .inr (3, [.ref h0_0, .int v10])), (h0_0, .inr (0, [.ref h0_0_0, .int v0_0_size])), (h0_0_0, .inl (c0_0_0, 600, .inl g0_0_values))]) [0, 1, 2] rfl
        have hDc := hD.sub (ws' := [(h0, .inr (3, [.ref h0_0, .int v10])), (h0_0, .inr (0, [.ref h0_0_0, .int v0_0_size])), (h0_0_0, .inl (c0_0_0, 600, .inl g0_0_values))]) [0, 1, 2] (by decide) rfl
        have hKc := hK.sub (tys' := [(c0_0_0, .int)]) [0] rfl
        have hFc := va_free (wc := [(h0, .inr (3, [.ref h0_0, .int v10])), (h0_0, .inr (0, [.ref h0_0_0, .int v0_0_size])), (h0_0_0, .inl (c0_0_0, 600, .inl g0_0_values))]) hD hS hA [0, 1, 2] rfl
        refine tw_calli (tw_runV (As := []) (rest := [.long v11]) ⟨hx, hb, hml, hown, htb⟩ (mt_Re_nextByte l hl9 dC dI sa h0 h0_0 h0_0_0 H.size c0_0_0 v10 v0_0_size g0_0_values _ _ hw) (cwV 0 htb (zgV zw_417 zw_316 zw_317 zw_12 zw_318) rfl rfl rfl (by decide +kernel) ⟨(Nat.le_of_ble_eq_true rfl), (Nat.le_of_ble_eq_true rfl)⟩) ⟨zPx_blind, va_recv (ci := 3) (q0 := 0) hK hP rfl rfl, zPx_pre hZ hS hFc hPc hKc hDc⟩ rfl rfl hl.1 rfl (lv_room (Nat.le_of_ble_eq_true rfl)) zd_Re_nextFixed_13 ⟨(Nat.le_of_ble_eq_true rfl), (Nat.le_of_ble_eq_true rfl)⟩) hS (fun q _ h => hFc q h) hFc (fun q _ h => hFc q h) (fun E9 ce9 q9 u14 t H1 locs ht hvm hw hB hz1 hk1 hS hce hcv hcl => ?_) (fun x15 u14 t H1 locs ht hvm hw hB hz1 hk1 hS => ?_)
        · obtain ⟨hE, hB⟩ := hB
          obtain ⟨hP1, hK1, hD1⟩ := hB
          rw [ht] at hP1
          have hK1 := va_K.moved hvm.symm hK1
          obtain ⟨hP, hD⟩ := va_join (wr := []) (w1 := [(h0, .inr (3, [.ref h0_0, .int u14.2])), (h0_0, .inr (0, [.ref h0_0_0, .int v0_0_size])), (h0_0_0, .inl (c0_0_0, 600, .inl g0_0_values))]) hP hD [0, 1, 2] [] rfl rfl (by decide) (by decide) hk1 hFc hP1 hD1
          generalize H1 = H at hP hS hce ⊢
          have hP : va_P (dC, dI) zC [(h0, .inr (3, [.ref h0_0, .int u14.2])), (h0_0, .inr (0, [.ref h0_0_0, .int v0_0_size])), (h0_0_0, .inl (c0_0_0, 600, .inl g0_0_values))] H := hP
          have hD : va_D A [(h0, .inr (3, [.ref h0_0, .int u14.2])), (h0_0, .inr (0, [.ref h0_0_0, .int v0_0_size])), (h0_0_0, .inl (c0_0_0, 600, .inl g0_0_values))] := hD
          have hP9 := hP.sub (ws' := [(h0, .inr (3, [.ref h0_0, .int u14.2])), (h0_0, .inr (0, [.ref h0_0_0, .int v0_0_size])), (h0_0_0, .inl (c0_0_0, 600, .inl g0_0_values))]) [0, 1, 2] rfl
          have hD9 := hD.sub (ws' := [(h0, .inr (3, [.ref h0_0, .int u14.2])), (h0_0, .inr (0, [.ref h0_0_0, .int v0_0_size])), (h0_0_0, .inl (c0_0_0, 600, .inl g0_0_values))]) [0, 1, 2] (by decide) rfl
          have hK9 := hK.sub (tys' := [(c0_0_0, .int)]) [0] rfl
          exact tw_out (E := E9) (fun x hx => (hEx x hx).elim) hlocks hce hcv hcl (fun t ht ha => ⟨(u14.1, u14.2), hw, ⟨hE, by rw [ht]; exact hP9, va_K.moved ha hK9, hD9⟩, hS.F ht⟩) hS.2.2 (Nat.le_of_ble_eq_true rfl) (Nat.le_of_ble_eq_true rfl)
        · skip
          obtain ⟨hP1, hK1, hD1⟩ := hB
          rw [ht] at hP1
          have hK1 := va_K.moved hvm.symm hK1
          obtain ⟨hP, hD⟩ := va_join (wr := []) (w1 := [(h0, .inr (3, [.ref h0_0, .int u14])), (h0_0, .inr (0, [.ref h0_0_0, .int v0_0_size])), (h0_0_0, .inl (c0_0_0, 600, .inl g0_0_values))]) hP hD [0, 1, 2] [] rfl rfl (by decide) (by decide) hk1 hFc hP1 hD1
          generalize H1 = H at hP hS ⊢
          have hP : va_P (dC, dI) zC [(h0, .inr (3, [.ref h0_0, .int u14])), (h0_0, .inr (0, [.ref h0_0_0, .int v0_0_size])), (h0_0_0, .inl (c0_0_0, 600, .inl g0_0_values))] H := hP
          have hD : va_D A [(h0, .inr (3, [.ref h0_0, .int u14])), (h0_0, .inr (0, [.ref h0_0_0, .int v0_0_size])), (h0_0_0, .inl (c0_0_0, 600, .inl g0_0_values))] := hD
          refine W.widen (k := 0) (n := 0) (Nat.le_of_ble_eq_true rfl) (Nat.le_of_ble_eq_true rfl) ?_
          refine lv_i2l hx hb zd_Re_nextFixed_16 rfl ?_
          refine lv_topl (fun x17 ex17 => ?_)
          have hw := hw x17 ex17
          refine lv_bipush (v := 8) hx hb zd_Re_nextFixed_17 (by decide) ?_
          refine lv_iload hx hb zd_Re_nextFixed_19 (lv_at hl 0 rfl) ?_
          refine lv_imul hx hb zd_Re_nextFixed_21 ?_
          refine lv_topi (fun x18 ex18 => ?_)
          have hw := hw x18 ex18
          refine lv_lshl hx hb zd_Re_nextFixed_22 rfl ?_
          refine lv_topl (fun x19 ex19 => ?_)
          have hw := hw x19 ex19
          refine lv_lor hx hb zd_Re_nextFixed_23 ?_
          refine lv_topl (fun x20 ex20 => ?_)
          have hw := hw x20 ex20
          refine lv_lstore_n (i := 2) (lv' := [(2, .long x20), (4, .int v12), (0, .ref h0), (1, .int p0)]) hx hb zd_Re_nextFixed_24 rfl hl (by decide) rfl (fun ls hl => ?_)
          obtain ⟨x21, ex21⟩ : ∃ z : Int32, z = v12 + Int32.ofInt 1 := ⟨_, rfl⟩
          have hw := hw x21 ex21
          refine lv_iinc (k := 1) (v := x21) (lv' := [(4, .int x21), (2, .long x20), (0, .ref h0), (1, .int p0)]) hx hb zd_Re_nextFixed_25 hl rfl ex21.symm (by decide) rfl (fun ls hl => ?_)
          refine lv_goto (tgt := 5) hx hb zd_Re_nextFixed_28 (by decide) ?_
          exact ih u14 x20 x21 ls H _ (lv_sub hl [0, 1, 2, 3] rfl) (hP.sub (ws' := [(h0, .inr (3, [.ref h0_0, .int u14])), (h0_0, .inr (0, [.ref h0_0_0, .int v0_0_size])), (h0_0_0, .inl (c0_0_0, 600, .inl g0_0_values))]) [0, 1, 2] rfl) (hD.sub (ws' := [(h0, .inr (3, [.ref h0_0, .int u14])), (h0_0, .inr (0, [.ref h0_0_0, .int v0_0_size])), (h0_0_0, .inl (c0_0_0, 600, .inl g0_0_values))]) [0, 1, 2] (by decide) rfl) hS hw
  obtain ⟨k, hw⟩ := hw
  exact lp5 k v0_at 0 0 ls H _ hl hP hD hS hw
abbrev zo_Re_skip : Room := { frames := 0, cells := 0, slots := 0, locals := 0 }
abbrev zb_Re_skip (dC : Nat → ClassId) (dI : Nat → Nat → Nat) (A : Nat → Prop) (h0 h0_0 h0_0_0 : Nat) (c0_0_0 : ClassId) (v0_0_size : Int32) (g0_0_values : Nat → Int32) (u : Int32) (t : State) : Prop := va_P (dC, dI) zC [(h0, .inr (3, [.ref h0_0, .int u])), (h0_0, .inr (0, [.ref h0_0_0, .int v0_0_size])), (h0_0_0, .inl (c0_0_0, 600, .inl g0_0_values))] t.heap ∧ va_K (dC, dI) zC [(c0_0_0, .int)] t ∧ va_D A [(h0, .inr (3, [.ref h0_0, .int u])), (h0_0, .inr (0, [.ref h0_0_0, .int v0_0_size])), (h0_0_0, .inl (c0_0_0, 600, .inl g0_0_values))]
set_option maxHeartbeats 4000000 in
set_option maxRecDepth 100000 in
theorem mt_Re_skip (l : Launch) (dC : Nat → ClassId) (dI : Nat → Nat → Nat) (h0 h0_0 h0_0_0 sz : Nat) (c0_0_0 : ClassId) (v0_at : Int32) (v0_0_size : Int32) (g0_0_values : Nat → Int32) (p0 : Int32) (post : Int32 → Prop) (hw : wp_Re_skip v0_at p0 post) : Met l zy_Re_skip zs_Re_skip zo_Re_skip (zP dC dI [.ref h0, .int p0] sz [(h0, .inr (3, [.ref h0_0, .int v0_at])), (h0_0, .inr (0, [.ref h0_0_0, .int v0_0_size])), (h0_0_0, .inl (c0_0_0, 600, .inl g0_0_values))] [(c0_0_0, .int)]) (va_Qv (fun (u : Int32) => post u) (zb_Re_skip dC dI (va_A [(h0, .inr (3, [.ref h0_0, .int v0_at])), (h0_0, .inr (0, [.ref h0_0_0, .int v0_0_size])), (h0_0_0, .inl (c0_0_0, 600, .inl g0_0_values))] sz) h0 h0_0 h0_0_0 c0_0_0 v0_0_size g0_0_values) (va_A [(h0, .inr (3, [.ref h0_0, .int v0_at])), (h0_0, .inr (0, [.ref h0_0_0, .int v0_0_size])), (h0_0_0, .inl (c0_0_0, 600, .inl g0_0_values))] sz)) 0 0 (va_A [(h0, .inr (3, [.ref h0_0, .int v0_at])), (h0_0, .inr (0, [.ref h0_0_0, .int v0_0_size])), (h0_0_0, .inl (c0_0_0, 600, .inl g0_0_values))] sz) := by
  unfold wp_Re_skip at hw
  refine Met.ofW (cc := zc_Re_skip) (maxL := 2) (ret := none) (by decide) rfl ?_
  intro p e s m args below meth c s₁ B hml hv
  obtain ⟨rfl, hsz, hP, hK, hD0⟩ := hv
  have hx := B.exec
  have hb := B.bytes
  have hr := B.returns
  have hts := atoms_spec (ws := zs_Re_skip) B.pre
  have htb := fun w (h : w ∈ zB) => hts w (List.mem_cons_of_mem _ h)
  have hown : s.vm.findClass zr_3 = some m.cls := findClass_of_methodNamed B.named
  have hlocks := B.notSynchronized
  subst hsz
  have hD := hD0.self (sz := s.heap.size)
  generalize hAe : va_A [(h0, .inr (3, [.ref h0_0, .int v0_at])), (h0_0, .inr (0, [.ref h0_0_0, .int v0_0_size])), (h0_0_0, .inl (c0_0_0, 600, .inl g0_0_values))] s.heap.size = A at hD ⊢
  have hA : ∀ q : Nat, s.heap.size ≤ q → A q := fun q h => by rw [← hAe]; exact Or.inr h
  clear hAe hD0
  have hl := lv_entry ([.ref h0, .int p0]) (n := 2) (Nat.le_of_ble_eq_true rfl)
  rw [lg_entry_eq]
  generalize (lg_sl ([.ref h0, .int p0]) ++ List.replicate (2 - (lg_sl ([.ref h0, .int p0])).length) Slot.unset).toArray = ls at hl ⊢
  have hl : lv_has ls 2 [(0, .ref h0), (1, .int p0)] := hl
  obtain ⟨H, hH⟩ : ∃ H, H = s.heap := ⟨_, rfl⟩
  have hS : va_S A s.heap H [] := by rw [hH]; exact va_S.rf
  rw [← hH] at hP ⊢
  refine lv_aload_n hx hb zd_Re_skip_0 rfl (lv_at hl 0 rfl) ?_
  refine lv_dup hx hb zd_Re_skip_1 rfl ?_
  refine va_get (D := (dC, dI)) (ci := 3) (v := .int v0_at) (C := zr_3) (T := zt_3) (N := 2) hx hb htb zi_3 hown hK hP 0 rfl rfl 1 (by decide) (htb _ zw_263) (fun _ h9 => h9) rfl zd_Re_skip_2 ?_
  refine lv_iload_n hx hb zd_Re_skip_5 rfl (lv_at hl 1 rfl) ?_
  refine lv_iadd hx hb zd_Re_skip_6 ?_
  refine lv_topi (fun x1 ex1 => ?_)
  have hw := hw x1 ex1
  refine va_put (D := (dC, dI)) (ci := 3) (v := .int x1) (ty := .int) (C := zr_3) (T := zt_3) (N := 2) hx hb htb zi_3 zf_3 zk_3 zn_3 hown hK hP hD hS 0 rfl rfl 1 (by decide) (htb _ zw_263) (fun _ h9 => h9) rfl (by decide +kernel) rfl rfl (Nat.le_of_ble_eq_true rfl) zd_Re_skip_7 (fun H locs hP hD hS => ?_)
  have hP : va_P (dC, dI) zC [(h0, .inr (3, [.ref h0_0, .int x1])), (h0_0, .inr (0, [.ref h0_0_0, .int v0_0_size])), (h0_0_0, .inl (c0_0_0, 600, .inl g0_0_values))] H := hP
  have hD : va_D A [(h0, .inr (3, [.ref h0_0, .int x1])), (h0_0, .inr (0, [.ref h0_0_0, .int v0_0_size])), (h0_0_0, .inl (c0_0_0, 600, .inl g0_0_values))] := hD
  have hP9 := hP.sub (ws' := [(h0, .inr (3, [.ref h0_0, .int x1])), (h0_0, .inr (0, [.ref h0_0_0, .int v0_0_size])), (h0_0_0, .inl (c0_0_0, 600, .inl g0_0_values))]) [0, 1, 2] rfl
  have hD9 := hD.sub (ws' := [(h0, .inr (3, [.ref h0_0, .int x1])), (h0_0, .inr (0, [.ref h0_0_0, .int v0_0_size])), (h0_0_0, .inl (c0_0_0, 600, .inl g0_0_values))]) [0, 1, 2] (by decide) rfl
  have hK9 := hK.sub (tys' := [(c0_0_0, .int)]) [0] rfl
  refine W.widen (k := 0) (n := 0) (Nat.le_of_ble_eq_true rfl) (Nat.le_of_ble_eq_true rfl) ?_
  exact W.vret hx hb hr (fun t ht hW => ⟨⟨x1, rfl, hw, by rw [ht]; exact hP9, va_K.moved hW.alike hK9, hD9⟩, hS.F ht⟩) hS.2.2 zd_Re_skip_10
