set_option maxHeartbeats 4000000 in
set_option maxRecDepth 100000 in
/-- Context(nodes): two new rows -/
theorem c_X0_init (l : Launch) (dC : Nat → ClassId) (dI : Nat → Nat → Nat) (cI cZ cL : ClassId) (h0 : Nat) (sz : Nat) (n0 : Nat) : Met l yX0_init (wd yX0_init cX0_init 2 none) ({ frames := 1, cells := 2, slots := 8192, locals := 12 }) (va_Pc [.ref h0, .ref n0] (hp dC dI cI cZ cL sz [(h0, .inr (0, [.null, .null, .null, .int 0]))])) (va_Qv (fun (_ : Unit) => True) (fun (_ : Unit) t => ∃ q1 : Nat, ∃ q2 : Nat, va_P (dC, dI) vwCl [(h0, .inr (0, [.ref n0, .ref q1, .ref q2, .int 0])), (q1, .inl (cI, 4096, .inl zI)), (q2, .inl (cI, 4096, .inl zI))] t.heap ∧ va_D (va_A [(h0, .inr (0, [.null, .null, .null, .int 0]))] sz) [(h0, .inr (0, [.ref n0, .ref q1, .ref q2, .int 0])), (q1, .inl (cI, 4096, .inl zI)), (q2, .inl (cI, 4096, .inl zI))]) (va_A [(h0, .inr (0, [.null, .null, .null, .int 0]))] sz)) 2 8192 (va_A [(h0, .inr (0, [.null, .null, .null, .int 0]))] sz) := by
  refine Met.ofW (cc := cX0_init) (maxL := 2) (ret := none) (by decide) rfl ?_
  intro p e s m args below meth c s₁ B hml hv
  obtain ⟨rfl, hsz, hP, hK, hD0⟩ := hv
  have hx := B.exec
  have hb := B.bytes
  have hr := B.returns
  have hw9 := atoms_spec (ws := (wd yX0_init cX0_init 2 none)) B.pre
  have hg := gw_hts hw9
  have hown : s.vm.findClass RX0 = some m.cls := findClass_of_methodNamed B.named
  have hlocks := B.notSynchronized
  have hin : meth.name = "<init>" := (name_of_methodNamed B.named B.method).1
  subst hsz
  have hD := hD0.self (sz := s.heap.size)
  generalize hAe : va_A [(h0, .inr (0, [.null, .null, .null, .int 0]))] s.heap.size = A at hD ⊢
  have hA : ∀ q : Nat, s.heap.size ≤ q → A q := fun q h => by rw [← hAe]; exact Or.inr h
  have hS : va_S A s.heap s.heap [] := va_S.rf
  have hl := lv_entry ([.ref h0, .ref n0]) (n := 2) (Nat.le_of_ble_eq_true rfl)
  rw [lg_entry_eq]
  generalize (lg_sl ([.ref h0, .ref n0]) ++ List.replicate (2 - (lg_sl ([.ref h0, .ref n0])).length) Slot.unset).toArray = ls at hl ⊢
  have hl : lv_has ls 2 [(0, .ref h0), (1, .ref n0)] := hl
  refine lv_aload_n hx hb dX0_init_0 rfl (lv_at hl 0 rfl) ?_
  refine W.objInit hx hb hown (hg _ k_8) (hg _ k_9) (hg _ k_10) rfl (by rw [hml]; exact hl.1) rfl dX0_init_1 (Nat.le_of_ble_eq_true rfl) (Nat.le_of_ble_eq_true rfl) ?_
  refine W.eq (g2 := F0 m 4 ls []) rfl ?_
  refine lv_aload_n hx hb dX0_init_4 rfl (lv_at hl 0 rfl) ?_
  refine lv_sipush (v := 4096) hx hb dX0_init_5 (by decide) ?_
  refine va_newa (atype := .int) (ty := .int) (N' := 4096) (a0 := (4096, .inl zI)) hx hb (hg _ k_11) rfl hK hP hD hS hA (fun _ => rfl) (by decide) (by decide) (by decide) (Nat.le_of_ble_eq_true rfl) (Nat.le_of_ble_eq_true rfl) dX0_init_8 (fun q1 cA H hK1 hP hD hS => ?_)
  obtain rfl := ty_int hK1
  have hP : va_P (dC, dI) vwCl [(h0, .inr (0, [.null, .null, .null, .int 0])), (q1, .inl (cI, 4096, .inl zI))] H := hP
  have hD : va_D A [(h0, .inr (0, [.null, .null, .null, .int 0])), (q1, .inl (cI, 4096, .inl zI))] := hD
  refine W.widen (k := 1) (n := 4096) (Nat.le_of_ble_eq_true rfl) (Nat.le_of_ble_eq_true rfl) ?_
  refine va_putF (D := (dC, dI)) (ci := 0) (v := .ref q1) (ty := .array .int) (C := RX0) (T := TX0) (N := 4) hx hb hg i_X0 tyX0 tyX0_ok nmX0 hown hK hP hD hS 0 rfl rfl 1 (by decide) (hg _ k_12) (fun _ h9 => h9) rfl hin rfl (by decide +kernel) rfl rfl (Nat.le_of_ble_eq_true rfl) dX0_init_10 (fun H locs hP hD hS => ?_)
  have hP : va_P (dC, dI) vwCl [(h0, .inr (0, [.null, .ref q1, .null, .int 0])), (q1, .inl (cI, 4096, .inl zI))] H := hP
  have hD : va_D A [(h0, .inr (0, [.null, .ref q1, .null, .int 0])), (q1, .inl (cI, 4096, .inl zI))] := hD
  refine lv_aload_n hx hb dX0_init_13 rfl (lv_at hl 0 rfl) ?_
  refine lv_sipush (v := 4096) hx hb dX0_init_14 (by decide) ?_
  refine va_newa (atype := .int) (ty := .int) (N' := 4096) (a0 := (4096, .inl zI)) hx hb (hg _ k_11) rfl hK hP hD hS hA (fun _ => rfl) (by decide) (by decide) (by decide) (Nat.le_of_ble_eq_true rfl) (Nat.le_of_ble_eq_true rfl) dX0_init_17 (fun q2 cA H hK1 hP hD hS => ?_)
  obtain rfl := ty_int hK1
  have hP : va_P (dC, dI) vwCl [(h0, .inr (0, [.null, .ref q1, .null, .int 0])), (q1, .inl (cI, 4096, .inl zI)), (q2, .inl (cI, 4096, .inl zI))] H := hP
  have hD : va_D A [(h0, .inr (0, [.null, .ref q1, .null, .int 0])), (q1, .inl (cI, 4096, .inl zI)), (q2, .inl (cI, 4096, .inl zI))] := hD
  refine W.widen (k := 2) (n := 8192) (Nat.le_of_ble_eq_true rfl) (Nat.le_of_ble_eq_true rfl) ?_
  refine va_putF (D := (dC, dI)) (ci := 0) (v := .ref q2) (ty := .array .int) (C := RX0) (T := TX0) (N := 4) hx hb hg i_X0 tyX0 tyX0_ok nmX0 hown hK hP hD hS 0 rfl rfl 2 (by decide) (hg _ k_13) (fun _ h9 => h9) rfl hin rfl (by decide +kernel) rfl rfl (Nat.le_of_ble_eq_true rfl) dX0_init_19 (fun H locs hP hD hS => ?_)
  have hP : va_P (dC, dI) vwCl [(h0, .inr (0, [.null, .ref q1, .ref q2, .int 0])), (q1, .inl (cI, 4096, .inl zI)), (q2, .inl (cI, 4096, .inl zI))] H := hP
  have hD : va_D A [(h0, .inr (0, [.null, .ref q1, .ref q2, .int 0])), (q1, .inl (cI, 4096, .inl zI)), (q2, .inl (cI, 4096, .inl zI))] := hD
  refine lv_aload_n hx hb dX0_init_22 rfl (lv_at hl 0 rfl) ?_
  refine lv_iconst (v := 0) hx hb dX0_init_23 (by decide) ?_
  refine va_put (D := (dC, dI)) (ci := 0) (v := .int 0) (ty := .int) (C := RX0) (T := TX0) (N := 4) hx hb hg i_X0 tyX0 tyX0_ok nmX0 hown hK hP hD hS 0 rfl rfl 3 (by decide) (hg _ k_14) (fun _ h9 => h9) rfl (by decide +kernel) rfl rfl (Nat.le_of_ble_eq_true rfl) dX0_init_24 (fun H locs hP hD hS => ?_)
  have hP : va_P (dC, dI) vwCl [(h0, .inr (0, [.null, .ref q1, .ref q2, .int 0])), (q1, .inl (cI, 4096, .inl zI)), (q2, .inl (cI, 4096, .inl zI))] H := hP
  have hD : va_D A [(h0, .inr (0, [.null, .ref q1, .ref q2, .int 0])), (q1, .inl (cI, 4096, .inl zI)), (q2, .inl (cI, 4096, .inl zI))] := hD
  refine lv_aload_n hx hb dX0_init_27 rfl (lv_at hl 0 rfl) ?_
  refine lv_aload_n hx hb dX0_init_28 rfl (lv_at hl 1 rfl) ?_
  refine va_putF (D := (dC, dI)) (ci := 0) (v := .ref n0) (ty := .object "TypeBench$Nodes") (C := RX0) (T := TX0) (N := 4) hx hb hg i_X0 tyX0 tyX0_ok nmX0 hown hK hP hD hS 0 rfl rfl 0 (by decide) (hg _ k_15) (fun _ h9 => h9) rfl hin rfl (by decide +kernel) rfl rfl (Nat.le_of_ble_eq_true rfl) dX0_init_29 (fun H locs hP hD hS => ?_)
  have hP : va_P (dC, dI) vwCl [(h0, .inr (0, [.ref n0, .ref q1, .ref q2, .int 0])), (q1, .inl (cI, 4096, .inl zI)), (q2, .inl (cI, 4096, .inl zI))] H := hP
  have hD : va_D A [(h0, .inr (0, [.ref n0, .ref q1, .ref q2, .int 0])), (q1, .inl (cI, 4096, .inl zI)), (q2, .inl (cI, 4096, .inl zI))] := hD
  have hP9 := hP.sub (ws' := [(h0, .inr (0, [.ref n0, .ref q1, .ref q2, .int 0])), (q1, .inl (cI, 4096, .inl zI)), (q2, .inl (cI, 4096, .inl zI))]) [0, 1, 2] rfl
  have hD9 := hD.sub (ws' := [(h0, .inr (0, [.ref n0, .ref q1, .ref q2, .int 0])), (q1, .inl (cI, 4096, .inl zI)), (q2, .inl (cI, 4096, .inl zI))]) [0, 1, 2] (by decide) rfl
  refine W.widen (k := 2) (n := 8192) (Nat.le_of_ble_eq_true rfl) (Nat.le_of_ble_eq_true rfl) ?_
  exact W.vret hx hb hr (fun t ht hW => ⟨⟨(), rfl, trivial, q1, q2, by rw [ht]; exact hP9, hD9⟩, hS.F ht⟩) hS.2.2 dX0_init_32

set_option maxHeartbeats 4000000 in
set_option maxRecDepth 100000 in
/-- Search(nodes, context): two new rows -/
theorem c_X5_init (l : Launch) (dC : Nat → ClassId) (dI : Nat → Nat → Nat) (cI cZ cL : ClassId) (h0 : Nat) (sz : Nat) (n0 x0 : Nat) : Met l yX5_init (wd yX5_init cX5_init 3 none) ({ frames := 1, cells := 2, slots := 8192, locals := 12 }) (va_Pc [.ref h0, .ref n0, .ref x0] (hp dC dI cI cZ cL sz [(h0, .inr (5, [.null, .null, .null, .null, .int 0, .int 0]))])) (va_Qv (fun (_ : Unit) => True) (fun (_ : Unit) t => ∃ q1 : Nat, ∃ q2 : Nat, va_P (dC, dI) vwCl [(h0, .inr (5, [.ref n0, .ref x0, .ref q1, .ref q2, .int 0, .int 0])), (q1, .inl (cI, 4096, .inl zI)), (q2, .inl (cI, 4096, .inl zI))] t.heap ∧ va_D (va_A [(h0, .inr (5, [.null, .null, .null, .null, .int 0, .int 0]))] sz) [(h0, .inr (5, [.ref n0, .ref x0, .ref q1, .ref q2, .int 0, .int 0])), (q1, .inl (cI, 4096, .inl zI)), (q2, .inl (cI, 4096, .inl zI))]) (va_A [(h0, .inr (5, [.null, .null, .null, .null, .int 0, .int 0]))] sz)) 2 8192 (va_A [(h0, .inr (5, [.null, .null, .null, .null, .int 0, .int 0]))] sz) := by
  refine Met.ofW (cc := cX5_init) (maxL := 3) (ret := none) (by decide) rfl ?_
  intro p e s m args below meth c s₁ B hml hv
  obtain ⟨rfl, hsz, hP, hK, hD0⟩ := hv
  have hx := B.exec
  have hb := B.bytes
  have hr := B.returns
  have hw9 := atoms_spec (ws := (wd yX5_init cX5_init 3 none)) B.pre
  have hg := gw_hts hw9
  have hown : s.vm.findClass RX5 = some m.cls := findClass_of_methodNamed B.named
  have hlocks := B.notSynchronized
  have hin : meth.name = "<init>" := (name_of_methodNamed B.named B.method).1
  subst hsz
  have hD := hD0.self (sz := s.heap.size)
  generalize hAe : va_A [(h0, .inr (5, [.null, .null, .null, .null, .int 0, .int 0]))] s.heap.size = A at hD ⊢
  have hA : ∀ q : Nat, s.heap.size ≤ q → A q := fun q h => by rw [← hAe]; exact Or.inr h
  have hS : va_S A s.heap s.heap [] := va_S.rf
  have hl := lv_entry ([.ref h0, .ref n0, .ref x0]) (n := 3) (Nat.le_of_ble_eq_true rfl)
  rw [lg_entry_eq]
  generalize (lg_sl ([.ref h0, .ref n0, .ref x0]) ++ List.replicate (3 - (lg_sl ([.ref h0, .ref n0, .ref x0])).length) Slot.unset).toArray = ls at hl ⊢
  have hl : lv_has ls 3 [(0, .ref h0), (1, .ref n0), (2, .ref x0)] := hl
  refine lv_aload_n hx hb dX5_init_0 rfl (lv_at hl 0 rfl) ?_
  refine W.objInit hx hb hown (hg _ k_16) (hg _ k_9) (hg _ k_10) rfl (by rw [hml]; exact hl.1) rfl dX5_init_1 (Nat.le_of_ble_eq_true rfl) (Nat.le_of_ble_eq_true rfl) ?_
  refine W.eq (g2 := F0 m 4 ls []) rfl ?_
  refine lv_aload_n hx hb dX5_init_4 rfl (lv_at hl 0 rfl) ?_
  refine lv_sipush (v := 4096) hx hb dX5_init_5 (by decide) ?_
  refine va_newa (atype := .int) (ty := .int) (N' := 4096) (a0 := (4096, .inl zI)) hx hb (hg _ k_11) rfl hK hP hD hS hA (fun _ => rfl) (by decide) (by decide) (by decide) (Nat.le_of_ble_eq_true rfl) (Nat.le_of_ble_eq_true rfl) dX5_init_8 (fun q1 cA H hK1 hP hD hS => ?_)
  obtain rfl := ty_int hK1
  have hP : va_P (dC, dI) vwCl [(h0, .inr (5, [.null, .null, .null, .null, .int 0, .int 0])), (q1, .inl (cI, 4096, .inl zI))] H := hP
  have hD : va_D A [(h0, .inr (5, [.null, .null, .null, .null, .int 0, .int 0])), (q1, .inl (cI, 4096, .inl zI))] := hD
  refine W.widen (k := 1) (n := 4096) (Nat.le_of_ble_eq_true rfl) (Nat.le_of_ble_eq_true rfl) ?_
  refine va_putF (D := (dC, dI)) (ci := 5) (v := .ref q1) (ty := .array .int) (C := RX5) (T := TX5) (N := 6) hx hb hg i_X5 tyX5 tyX5_ok nmX5 hown hK hP hD hS 0 rfl rfl 2 (by decide) (hg _ k_17) (fun _ h9 => h9) rfl hin rfl (by decide +kernel) rfl rfl (Nat.le_of_ble_eq_true rfl) dX5_init_10 (fun H locs hP hD hS => ?_)
  have hP : va_P (dC, dI) vwCl [(h0, .inr (5, [.null, .null, .ref q1, .null, .int 0, .int 0])), (q1, .inl (cI, 4096, .inl zI))] H := hP
  have hD : va_D A [(h0, .inr (5, [.null, .null, .ref q1, .null, .int 0, .int 0])), (q1, .inl (cI, 4096, .inl zI))] := hD
  refine lv_aload_n hx hb dX5_init_13 rfl (lv_at hl 0 rfl) ?_
  refine lv_sipush (v := 4096) hx hb dX5_init_14 (by decide) ?_
  refine va_newa (atype := .int) (ty := .int) (N' := 4096) (a0 := (4096, .inl zI)) hx hb (hg _ k_11) rfl hK hP hD hS hA (fun _ => rfl) (by decide) (by decide) (by decide) (Nat.le_of_ble_eq_true rfl) (Nat.le_of_ble_eq_true rfl) dX5_init_17 (fun q2 cA H hK1 hP hD hS => ?_)
  obtain rfl := ty_int hK1
  have hP : va_P (dC, dI) vwCl [(h0, .inr (5, [.null, .null, .ref q1, .null, .int 0, .int 0])), (q1, .inl (cI, 4096, .inl zI)), (q2, .inl (cI, 4096, .inl zI))] H := hP
  have hD : va_D A [(h0, .inr (5, [.null, .null, .ref q1, .null, .int 0, .int 0])), (q1, .inl (cI, 4096, .inl zI)), (q2, .inl (cI, 4096, .inl zI))] := hD
  refine W.widen (k := 2) (n := 8192) (Nat.le_of_ble_eq_true rfl) (Nat.le_of_ble_eq_true rfl) ?_
  refine va_putF (D := (dC, dI)) (ci := 5) (v := .ref q2) (ty := .array .int) (C := RX5) (T := TX5) (N := 6) hx hb hg i_X5 tyX5 tyX5_ok nmX5 hown hK hP hD hS 0 rfl rfl 3 (by decide) (hg _ k_18) (fun _ h9 => h9) rfl hin rfl (by decide +kernel) rfl rfl (Nat.le_of_ble_eq_true rfl) dX5_init_19 (fun H locs hP hD hS => ?_)
  have hP : va_P (dC, dI) vwCl [(h0, .inr (5, [.null, .null, .ref q1, .ref q2, .int 0, .int 0])), (q1, .inl (cI, 4096, .inl zI)), (q2, .inl (cI, 4096, .inl zI))] H := hP
  have hD : va_D A [(h0, .inr (5, [.null, .null, .ref q1, .ref q2, .int 0, .int 0])), (q1, .inl (cI, 4096, .inl zI)), (q2, .inl (cI, 4096, .inl zI))] := hD
  refine lv_aload_n hx hb dX5_init_22 rfl (lv_at hl 0 rfl) ?_
  refine lv_iconst (v := 0) hx hb dX5_init_23 (by decide) ?_
  refine va_put (D := (dC, dI)) (ci := 5) (v := .int 0) (ty := .int) (C := RX5) (T := TX5) (N := 6) hx hb hg i_X5 tyX5 tyX5_ok nmX5 hown hK hP hD hS 0 rfl rfl 4 (by decide) (hg _ k_19) (fun _ h9 => h9) rfl (by decide +kernel) rfl rfl (Nat.le_of_ble_eq_true rfl) dX5_init_24 (fun H locs hP hD hS => ?_)
  have hP : va_P (dC, dI) vwCl [(h0, .inr (5, [.null, .null, .ref q1, .ref q2, .int 0, .int 0])), (q1, .inl (cI, 4096, .inl zI)), (q2, .inl (cI, 4096, .inl zI))] H := hP
  have hD : va_D A [(h0, .inr (5, [.null, .null, .ref q1, .ref q2, .int 0, .int 0])), (q1, .inl (cI, 4096, .inl zI)), (q2, .inl (cI, 4096, .inl zI))] := hD
  refine lv_aload_n hx hb dX5_init_27 rfl (lv_at hl 0 rfl) ?_
  refine lv_iconst (v := 0) hx hb dX5_init_28 (by decide) ?_
  refine va_put (D := (dC, dI)) (ci := 5) (v := .int 0) (ty := .int) (C := RX5) (T := TX5) (N := 6) hx hb hg i_X5 tyX5 tyX5_ok nmX5 hown hK hP hD hS 0 rfl rfl 5 (by decide) (hg _ k_20) (fun _ h9 => h9) rfl (by decide +kernel) rfl rfl (Nat.le_of_ble_eq_true rfl) dX5_init_29 (fun H locs hP hD hS => ?_)
  have hP : va_P (dC, dI) vwCl [(h0, .inr (5, [.null, .null, .ref q1, .ref q2, .int 0, .int 0])), (q1, .inl (cI, 4096, .inl zI)), (q2, .inl (cI, 4096, .inl zI))] H := hP
  have hD : va_D A [(h0, .inr (5, [.null, .null, .ref q1, .ref q2, .int 0, .int 0])), (q1, .inl (cI, 4096, .inl zI)), (q2, .inl (cI, 4096, .inl zI))] := hD
  refine lv_aload_n hx hb dX5_init_32 rfl (lv_at hl 0 rfl) ?_
  refine lv_aload_n hx hb dX5_init_33 rfl (lv_at hl 1 rfl) ?_
  refine va_putF (D := (dC, dI)) (ci := 5) (v := .ref n0) (ty := .object "TypeBench$Nodes") (C := RX5) (T := TX5) (N := 6) hx hb hg i_X5 tyX5 tyX5_ok nmX5 hown hK hP hD hS 0 rfl rfl 0 (by decide) (hg _ k_21) (fun _ h9 => h9) rfl hin rfl (by decide +kernel) rfl rfl (Nat.le_of_ble_eq_true rfl) dX5_init_34 (fun H locs hP hD hS => ?_)
  have hP : va_P (dC, dI) vwCl [(h0, .inr (5, [.ref n0, .null, .ref q1, .ref q2, .int 0, .int 0])), (q1, .inl (cI, 4096, .inl zI)), (q2, .inl (cI, 4096, .inl zI))] H := hP
  have hD : va_D A [(h0, .inr (5, [.ref n0, .null, .ref q1, .ref q2, .int 0, .int 0])), (q1, .inl (cI, 4096, .inl zI)), (q2, .inl (cI, 4096, .inl zI))] := hD
  refine lv_aload_n hx hb dX5_init_37 rfl (lv_at hl 0 rfl) ?_
  refine lv_aload_n hx hb dX5_init_38 rfl (lv_at hl 2 rfl) ?_
  refine va_putF (D := (dC, dI)) (ci := 5) (v := .ref x0) (ty := .object "TypeBench$Context") (C := RX5) (T := TX5) (N := 6) hx hb hg i_X5 tyX5 tyX5_ok nmX5 hown hK hP hD hS 0 rfl rfl 1 (by decide) (hg _ k_22) (fun _ h9 => h9) rfl hin rfl (by decide +kernel) rfl rfl (Nat.le_of_ble_eq_true rfl) dX5_init_39 (fun H locs hP hD hS => ?_)
  have hP : va_P (dC, dI) vwCl [(h0, .inr (5, [.ref n0, .ref x0, .ref q1, .ref q2, .int 0, .int 0])), (q1, .inl (cI, 4096, .inl zI)), (q2, .inl (cI, 4096, .inl zI))] H := hP
  have hD : va_D A [(h0, .inr (5, [.ref n0, .ref x0, .ref q1, .ref q2, .int 0, .int 0])), (q1, .inl (cI, 4096, .inl zI)), (q2, .inl (cI, 4096, .inl zI))] := hD
  have hP9 := hP.sub (ws' := [(h0, .inr (5, [.ref n0, .ref x0, .ref q1, .ref q2, .int 0, .int 0])), (q1, .inl (cI, 4096, .inl zI)), (q2, .inl (cI, 4096, .inl zI))]) [0, 1, 2] rfl
  have hD9 := hD.sub (ws' := [(h0, .inr (5, [.ref n0, .ref x0, .ref q1, .ref q2, .int 0, .int 0])), (q1, .inl (cI, 4096, .inl zI)), (q2, .inl (cI, 4096, .inl zI))]) [0, 1, 2] (by decide) rfl
  refine W.widen (k := 2) (n := 8192) (Nat.le_of_ble_eq_true rfl) (Nat.le_of_ble_eq_true rfl) ?_
  exact W.vret hx hb hr (fun t ht hW => ⟨⟨(), rfl, trivial, q1, q2, by rw [ht]; exact hP9, hD9⟩, hS.F ht⟩) hS.2.2 dX5_init_42
