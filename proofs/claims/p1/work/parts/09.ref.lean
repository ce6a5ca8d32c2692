set_option maxHeartbeats 4000000 in
set_option maxRecDepth 100000 in
/-- thrown() -/
theorem c_X7_thrown (l : Launch) (dC : Nat → ClassId) (dI : Nat → Nat → Nat) (cI cZ cL : ClassId) (h0 : Nat) (sz : Nat) (k : Int32) (tl : List Value) : Met l yX7_thrown (wd yX7_thrown cX7_thrown 1 (some .int)) ({ frames := 0, cells := 0, slots := 0, locals := 0 }) (va_Pc [.ref h0] (hp dC dI cI cZ cL sz [(h0, .inr (7, .int k :: tl))])) (va_Qi (fun (r : Int32) (_ : Unit) => r = k) (fun (_ : Unit) t => va_P (dC, dI) vwCl [] t.heap ∧ va_D (va_A [(h0, .inr (7, .int k :: tl))] sz) []) (va_A [(h0, .inr (7, .int k :: tl))] sz)) 0 0 (va_A [(h0, .inr (7, .int k :: tl))] sz) := by
  refine Met.ofW (cc := cX7_thrown) (maxL := 1) (ret := (some .int)) (by decide) rfl ?_
  intro p e s m args below meth c s₁ B hml hv
  obtain ⟨rfl, hsz, hP, hK, hD0⟩ := hv
  have hx := B.exec
  have hb := B.bytes
  have hr := B.returns
  have hw9 := atoms_spec (ws := (wd yX7_thrown cX7_thrown 1 (some .int))) B.pre
  have hg := gw_hts hw9
  have hown : s.vm.findClass RX7 = some m.cls := findClass_of_methodNamed B.named
  have hlocks := B.notSynchronized
  subst hsz
  have hD := hD0.self (sz := s.heap.size)
  generalize hAe : va_A [(h0, .inr (7, .int k :: tl))] s.heap.size = A at hD ⊢
  have hA : ∀ q : Nat, s.heap.size ≤ q → A q := fun q h => by rw [← hAe]; exact Or.inr h
  have hS : va_S A s.heap s.heap [] := va_S.rf
  have hl := lv_entry ([.ref h0]) (n := 1) (Nat.le_of_ble_eq_true rfl)
  rw [lg_entry_eq]
  generalize (lg_sl ([.ref h0]) ++ List.replicate (1 - (lg_sl ([.ref h0])).length) Slot.unset).toArray = ls at hl ⊢
  have hl : lv_has ls 1 [(0, .ref h0)] := hl
  refine lv_aload_n hx hb dX7_thrown_0 rfl (lv_at hl 0 rfl) ?_
  refine va_get (D := (dC, dI)) (ci := 7) (v := .int k) (C := RX7) (T := TX7) (N := 39) hx hb hg i_X7 hown hK hP 0 rfl rfl 0 (by decide) (hg _ k_226) (fun _ h9 => h9) rfl dX7_thrown_1 ?_
  have hP9 := hP.sub (ws' := []) [] rfl
  have hD9 := hD.sub (ws' := []) [] (by decide) rfl
  refine W.widen (k := 0) (n := 0) (Nat.le_of_ble_eq_true rfl) (Nat.le_of_ble_eq_true rfl) ?_
  exact W.iret (v := k) hx hb hr (fun t ht hW => ⟨⟨k, (), rfl, rfl, by rw [ht]; exact hP9, hD9⟩, hS.F ht⟩) hS.2.2 dX7_thrown_4

set_option maxHeartbeats 4000000 in
set_option maxRecDepth 100000 in
/-- throwing(true, false) -/
theorem c_thrA (l : Launch) (dC : Nat → ClassId) (dI : Nat → Nat → Nat) (cI cZ cL : ClassId) (h0 : Nat) (sz : Nat) (tl : List Value) : Met l yX7_throwing (wd yX7_throwing cX7_throwing 3 (some .boolean)) ({ frames := 0, cells := 0, slots := 0, locals := 0 }) (va_Pc [.ref h0, .int 1, .int 0] (hp dC dI cI cZ cL sz [(h0, .inr (7, .int 0 :: tl))])) (va_Qi (fun (r : Int32) (_ : Unit) => r = 1) (fun (_ : Unit) t => va_P (dC, dI) vwCl [(h0, .inr (7, .int 1 :: tl))] t.heap ∧ va_D (va_A [(h0, .inr (7, .int 0 :: tl))] sz) [(h0, .inr (7, .int 1 :: tl))]) (va_A [(h0, .inr (7, .int 0 :: tl))] sz)) 0 0 (va_A [(h0, .inr (7, .int 0 :: tl))] sz) := by
  refine Met.ofW (cc := cX7_throwing) (maxL := 3) (ret := (some .boolean)) (by decide) rfl ?_
  intro p e s m args below meth c s₁ B hml hv
  obtain ⟨rfl, hsz, hP, hK, hD0⟩ := hv
  have hx := B.exec
  have hb := B.bytes
  have hr := B.returns
  have hw9 := atoms_spec (ws := (wd yX7_throwing cX7_throwing 3 (some .boolean))) B.pre
  have hg := gw_hts hw9
  have hown : s.vm.findClass RX7 = some m.cls := findClass_of_methodNamed B.named
  have hlocks := B.notSynchronized
  subst hsz
  have hD := hD0.self (sz := s.heap.size)
  generalize hAe : va_A [(h0, .inr (7, .int 0 :: tl))] s.heap.size = A at hD ⊢
  have hA : ∀ q : Nat, s.heap.size ≤ q → A q := fun q h => by rw [← hAe]; exact Or.inr h
  have hS : va_S A s.heap s.heap [] := va_S.rf
  have hl := lv_entry ([.ref h0, .int 1, .int 0]) (n := 3) (Nat.le_of_ble_eq_true rfl)
  rw [lg_entry_eq]
  generalize (lg_sl ([.ref h0, .int 1, .int 0]) ++ List.replicate (3 - (lg_sl ([.ref h0, .int 1, .int 0])).length) Slot.unset).toArray = ls at hl ⊢
  have hl : lv_has ls 3 [(0, .ref h0), (1, .int 1), (2, .int 0)] := hl
  refine lv_aload_n hx hb dX7_throwing_0 rfl (lv_at hl 0 rfl) ?_
  refine lv_iload_n hx hb dX7_throwing_1 rfl (lv_at hl 1 rfl) ?_
  refine lv_if_eq (tgt := 9) hx hb dX7_throwing_2 (by decide) (fun c9 => absurd c9 (by decide)) (fun _ => ?_)
  refine lv_iconst (v := 1) hx hb dX7_throwing_5 (by decide) ?_
  refine lv_goto (tgt := 18) hx hb dX7_throwing_6 (by decide) ?_
  refine va_put (D := (dC, dI)) (ci := 7) (v := .int 1) (ty := .int) (C := RX7) (T := TX7) (N := 39) hx hb hg i_X7 tyX7 tyX7_ok nmX7 hown hK hP hD hS 0 rfl rfl 0 (by decide) (hg _ k_226) (fun _ h9 => h9) rfl (by decide +kernel) rfl rfl (by simp) dX7_throwing_18 (fun H locs hP hD hS => ?_)
  have hP : va_P (dC, dI) vwCl [(h0, .inr (7, .int 1 :: tl))] H := hP
  have hD : va_D A [(h0, .inr (7, .int 1 :: tl))] := hD
  refine lv_aload_n hx hb dX7_throwing_21 rfl (lv_at hl 0 rfl) ?_
  refine va_get (D := (dC, dI)) (ci := 7) (v := .int 1) (C := RX7) (T := TX7) (N := 39) hx hb hg i_X7 hown hK hP 0 rfl rfl 0 (by decide) (hg _ k_226) (fun _ h9 => h9) rfl dX7_throwing_22 ?_
  refine lv_if_le (tgt := 32) hx hb dX7_throwing_25 (by decide) (fun c9 => absurd c9 (by decide)) (fun _ => ?_)
  refine lv_iconst (v := 1) hx hb dX7_throwing_28 (by decide) ?_
  refine lv_goto (tgt := 33) hx hb dX7_throwing_29 (by decide) ?_
  have hP9 := hP.sub (ws' := [(h0, .inr (7, .int 1 :: tl))]) [0] rfl
  have hD9 := hD.sub (ws' := [(h0, .inr (7, .int 1 :: tl))]) [0] (by decide) rfl
  refine W.widen (k := 0) (n := 0) (Nat.le_of_ble_eq_true rfl) (Nat.le_of_ble_eq_true rfl) ?_
  exact W.zret (ty := .boolean) (v := 1) hx hb hr (by decide) (fun t ht hW => ⟨⟨1, (), rfl, rfl, by rw [ht]; exact hP9, hD9⟩, hS.F ht⟩) hS.2.2 dX7_throwing_33

set_option maxHeartbeats 4000000 in
set_option maxRecDepth 100000 in
/-- throwing(false, false) -/
theorem c_thrB (l : Launch) (dC : Nat → ClassId) (dI : Nat → Nat → Nat) (cI cZ cL : ClassId) (h0 : Nat) (sz : Nat) (tl : List Value) : Met l yX7_throwing (wd yX7_throwing cX7_throwing 3 (some .boolean)) ({ frames := 0, cells := 0, slots := 0, locals := 0 }) (va_Pc [.ref h0, .int 0, .int 0] (hp dC dI cI cZ cL sz [(h0, .inr (7, .int 0 :: tl))])) (va_Qi (fun (r : Int32) (_ : Unit) => r = 0) (fun (_ : Unit) t => va_P (dC, dI) vwCl [(h0, .inr (7, .int 0 :: tl))] t.heap ∧ va_D (va_A [(h0, .inr (7, .int 0 :: tl))] sz) [(h0, .inr (7, .int 0 :: tl))]) (va_A [(h0, .inr (7, .int 0 :: tl))] sz)) 0 0 (va_A [(h0, .inr (7, .int 0 :: tl))] sz) := by
  refine Met.ofW (cc := cX7_throwing) (maxL := 3) (ret := (some .boolean)) (by decide) rfl ?_
  intro p e s m args below meth c s₁ B hml hv
  obtain ⟨rfl, hsz, hP, hK, hD0⟩ := hv
  have hx := B.exec
  have hb := B.bytes
  have hr := B.returns
  have hw9 := atoms_spec (ws := (wd yX7_throwing cX7_throwing 3 (some .boolean))) B.pre
  have hg := gw_hts hw9
  have hown : s.vm.findClass RX7 = some m.cls := findClass_of_methodNamed B.named
  have hlocks := B.notSynchronized
  subst hsz
  have hD := hD0.self (sz := s.heap.size)
  generalize hAe : va_A [(h0, .inr (7, .int 0 :: tl))] s.heap.size = A at hD ⊢
  have hA : ∀ q : Nat, s.heap.size ≤ q → A q := fun q h => by rw [← hAe]; exact Or.inr h
  have hS : va_S A s.heap s.heap [] := va_S.rf
  have hl := lv_entry ([.ref h0, .int 0, .int 0]) (n := 3) (Nat.le_of_ble_eq_true rfl)
  rw [lg_entry_eq]
  generalize (lg_sl ([.ref h0, .int 0, .int 0]) ++ List.replicate (3 - (lg_sl ([.ref h0, .int 0, .int 0])).length) Slot.unset).toArray = ls at hl ⊢
  have hl : lv_has ls 3 [(0, .ref h0), (1, .int 0), (2, .int 0)] := hl
  refine lv_aload_n hx hb dX7_throwing_0 rfl (lv_at hl 0 rfl) ?_
  refine lv_iload_n hx hb dX7_throwing_1 rfl (lv_at hl 1 rfl) ?_
  refine lv_if_eq (tgt := 9) hx hb dX7_throwing_2 (by decide) (fun _ => ?_) (fun c9 => absurd (by decide) c9)
  refine lv_iload_n hx hb dX7_throwing_9 rfl (lv_at hl 2 rfl) ?_
  refine lv_if_eq (tgt := 17) hx hb dX7_throwing_10 (by decide) (fun _ => ?_) (fun c9 => absurd (by decide) c9)
  refine lv_iconst (v := 0) hx hb dX7_throwing_17 (by decide) ?_
  refine va_put (D := (dC, dI)) (ci := 7) (v := .int 0) (ty := .int) (C := RX7) (T := TX7) (N := 39) hx hb hg i_X7 tyX7 tyX7_ok nmX7 hown hK hP hD hS 0 rfl rfl 0 (by decide) (hg _ k_226) (fun _ h9 => h9) rfl (by decide +kernel) rfl rfl (by simp) dX7_throwing_18 (fun H locs hP hD hS => ?_)
  have hP : va_P (dC, dI) vwCl [(h0, .inr (7, .int 0 :: tl))] H := hP
  have hD : va_D A [(h0, .inr (7, .int 0 :: tl))] := hD
  refine lv_aload_n hx hb dX7_throwing_21 rfl (lv_at hl 0 rfl) ?_
  refine va_get (D := (dC, dI)) (ci := 7) (v := .int 0) (C := RX7) (T := TX7) (N := 39) hx hb hg i_X7 hown hK hP 0 rfl rfl 0 (by decide) (hg _ k_226) (fun _ h9 => h9) rfl dX7_throwing_22 ?_
  refine lv_if_le (tgt := 32) hx hb dX7_throwing_25 (by decide) (fun _ => ?_) (fun c9 => absurd (by decide) c9)
  refine lv_iconst (v := 0) hx hb dX7_throwing_32 (by decide) ?_
  have hP9 := hP.sub (ws' := [(h0, .inr (7, .int 0 :: tl))]) [0] rfl
  have hD9 := hD.sub (ws' := [(h0, .inr (7, .int 0 :: tl))]) [0] (by decide) rfl
  refine W.widen (k := 0) (n := 0) (Nat.le_of_ble_eq_true rfl) (Nat.le_of_ble_eq_true rfl) ?_
  exact W.zret (ty := .boolean) (v := 0) hx hb hr (by decide) (fun t ht hW => ⟨⟨0, (), rfl, rfl, by rw [ht]; exact hP9, hD9⟩, hS.F ht⟩) hS.2.2 dX7_throwing_33

set_option maxHeartbeats 4000000 in
set_option maxRecDepth 100000 in
/-- see() at the end of an empty text -/
theorem c_X7_see (l : Launch) (dC : Nat → ClassId) (dI : Nat → Nat → Nat) (cI cZ cL : ClassId) (h0 : Nat) (sz : Nat) (m1 m2 m3 m4 m5 m6 m7 m8 m9 m10 m11 m12 m13 m14 m15 m16 m17 m18 m19 m20 m21 : Nat) : Met l yX7_see (wd yX7_see cX7_see 1 (some .int)) ({ frames := 0, cells := 0, slots := 0, locals := 0 }) (va_Pc [.ref h0] (hp dC dI cI cZ cL sz [(h0, .inr (7, [.int 0, .ref m1, .int 0, .int 0, .int 0, .int 0, .int (-1), .int 0, .int 0, .ref m2, .ref m3, .ref m4, .int 0, .ref m5, .ref m6, .ref m7, .int 0, .ref m8, .ref m9, .ref m10, .int 1, .int 0, .ref m11, .ref m12, .ref m13, .int 0, .int 0, .ref m14, .int 0, .ref m15, .ref m16, .ref m17, .int 0, .int 0, .ref m18, .ref m19, .ref m20, .int 0, .ref m21]))])) (va_Qi (fun (r : Int32) (_ : Unit) => r = -1) (fun (_ : Unit) t => va_P (dC, dI) vwCl [(h0, .inr (7, [.int 0, .ref m1, .int 0, .int 0, .int 0, .int 0, .int (-1), .int 0, .int 0, .ref m2, .ref m3, .ref m4, .int 0, .ref m5, .ref m6, .ref m7, .int 0, .ref m8, .ref m9, .ref m10, .int 1, .int 0, .ref m11, .ref m12, .ref m13, .int 0, .int 0, .ref m14, .int 0, .ref m15, .ref m16, .ref m17, .int 0, .int 0, .ref m18, .ref m19, .ref m20, .int 0, .ref m21]))] t.heap ∧ va_D (va_A [(h0, .inr (7, [.int 0, .ref m1, .int 0, .int 0, .int 0, .int 0, .int (-1), .int 0, .int 0, .ref m2, .ref m3, .ref m4, .int 0, .ref m5, .ref m6, .ref m7, .int 0, .ref m8, .ref m9, .ref m10, .int 1, .int 0, .ref m11, .ref m12, .ref m13, .int 0, .int 0, .ref m14, .int 0, .ref m15, .ref m16, .ref m17, .int 0, .int 0, .ref m18, .ref m19, .ref m20, .int 0, .ref m21]))] sz) [(h0, .inr (7, [.int 0, .ref m1, .int 0, .int 0, .int 0, .int 0, .int (-1), .int 0, .int 0, .ref m2, .ref m3, .ref m4, .int 0, .ref m5, .ref m6, .ref m7, .int 0, .ref m8, .ref m9, .ref m10, .int 1, .int 0, .ref m11, .ref m12, .ref m13, .int 0, .int 0, .ref m14, .int 0, .ref m15, .ref m16, .ref m17, .int 0, .int 0, .ref m18, .ref m19, .ref m20, .int 0, .ref m21]))]) (va_A [(h0, .inr (7, [.int 0, .ref m1, .int 0, .int 0, .int 0, .int 0, .int (-1), .int 0, .int 0, .ref m2, .ref m3, .ref m4, .int 0, .ref m5, .ref m6, .ref m7, .int 0, .ref m8, .ref m9, .ref m10, .int 1, .int 0, .ref m11, .ref m12, .ref m13, .int 0, .int 0, .ref m14, .int 0, .ref m15, .ref m16, .ref m17, .int 0, .int 0, .ref m18, .ref m19, .ref m20, .int 0, .ref m21]))] sz)) 0 0 (va_A [(h0, .inr (7, [.int 0, .ref m1, .int 0, .int 0, .int 0, .int 0, .int (-1), .int 0, .int 0, .ref m2, .ref m3, .ref m4, .int 0, .ref m5, .ref m6, .ref m7, .int 0, .ref m8, .ref m9, .ref m10, .int 1, .int 0, .ref m11, .ref m12, .ref m13, .int 0, .int 0, .ref m14, .int 0, .ref m15, .ref m16, .ref m17, .int 0, .int 0, .ref m18, .ref m19, .ref m20, .int 0, .ref m21]))] sz) := by
  refine Met.ofW (cc := cX7_see) (maxL := 1) (ret := (some .int)) (by decide) rfl ?_
  intro p e s m args below meth c s₁ B hml hv
  obtain ⟨rfl, hsz, hP, hK, hD0⟩ := hv
  have hx := B.exec
  have hb := B.bytes
  have hr := B.returns
  have hw9 := atoms_spec (ws := (wd yX7_see cX7_see 1 (some .int))) B.pre
  have hg := gw_hts hw9
  have hown : s.vm.findClass RX7 = some m.cls := findClass_of_methodNamed B.named
  have hlocks := B.notSynchronized
  subst hsz
  have hD := hD0.self (sz := s.heap.size)
  generalize hAe : va_A [(h0, .inr (7, [.int 0, .ref m1, .int 0, .int 0, .int 0, .int 0, .int (-1), .int 0, .int 0, .ref m2, .ref m3, .ref m4, .int 0, .ref m5, .ref m6, .ref m7, .int 0, .ref m8, .ref m9, .ref m10, .int 1, .int 0, .ref m11, .ref m12, .ref m13, .int 0, .int 0, .ref m14, .int 0, .ref m15, .ref m16, .ref m17, .int 0, .int 0, .ref m18, .ref m19, .ref m20, .int 0, .ref m21]))] s.heap.size = A at hD ⊢
  have hA : ∀ q : Nat, s.heap.size ≤ q → A q := fun q h => by rw [← hAe]; exact Or.inr h
  have hS : va_S A s.heap s.heap [] := va_S.rf
  have hl := lv_entry ([.ref h0]) (n := 1) (Nat.le_of_ble_eq_true rfl)
  rw [lg_entry_eq]
  generalize (lg_sl ([.ref h0]) ++ List.replicate (1 - (lg_sl ([.ref h0])).length) Slot.unset).toArray = ls at hl ⊢
  have hl : lv_has ls 1 [(0, .ref h0)] := hl
  refine lv_aload_n hx hb dX7_see_0 rfl (lv_at hl 0 rfl) ?_
  refine va_get (D := (dC, dI)) (ci := 7) (v := .int 0) (C := RX7) (T := TX7) (N := 39) hx hb hg i_X7 hown hK hP 0 rfl rfl 4 (by decide) (hg _ k_227) (fun _ h9 => h9) rfl dX7_see_1 ?_
  refine lv_aload_n hx hb dX7_see_4 rfl (lv_at hl 0 rfl) ?_
  refine va_get (D := (dC, dI)) (ci := 7) (v := .int 0) (C := RX7) (T := TX7) (N := 39) hx hb hg i_X7 hown hK hP 0 rfl rfl 3 (by decide) (hg _ k_228) (fun _ h9 => h9) rfl dX7_see_5 ?_
  refine lv_icmp_ge (tgt := 38) hx hb dX7_see_8 (by decide) (fun _ => ?_) (fun c9 => absurd (by decide) c9)
  refine lv_aload_n hx hb dX7_see_38 rfl (lv_at hl 0 rfl) ?_
  refine va_get (D := (dC, dI)) (ci := 7) (v := .int 0) (C := RX7) (T := TX7) (N := 39) hx hb hg i_X7 hown hK hP 0 rfl rfl 4 (by decide) (hg _ k_227) (fun _ h9 => h9) rfl dX7_see_39 ?_
  refine lv_aload_n hx hb dX7_see_42 rfl (lv_at hl 0 rfl) ?_
  refine va_get (D := (dC, dI)) (ci := 7) (v := .int 0) (C := RX7) (T := TX7) (N := 39) hx hb hg i_X7 hown hK hP 0 rfl rfl 3 (by decide) (hg _ k_228) (fun _ h9 => h9) rfl dX7_see_43 ?_
  refine lv_icmp_ge (tgt := 61) hx hb dX7_see_46 (by decide) (fun _ => ?_) (fun c9 => absurd (by decide) c9)
  refine lv_iconst (v := (-1)) hx hb dX7_see_61 (by decide) ?_
  have hP9 := hP.sub (ws' := [(h0, .inr (7, [.int 0, .ref m1, .int 0, .int 0, .int 0, .int 0, .int (-1), .int 0, .int 0, .ref m2, .ref m3, .ref m4, .int 0, .ref m5, .ref m6, .ref m7, .int 0, .ref m8, .ref m9, .ref m10, .int 1, .int 0, .ref m11, .ref m12, .ref m13, .int 0, .int 0, .ref m14, .int 0, .ref m15, .ref m16, .ref m17, .int 0, .int 0, .ref m18, .ref m19, .ref m20, .int 0, .ref m21]))]) [0] rfl
  have hD9 := hD.sub (ws' := [(h0, .inr (7, [.int 0, .ref m1, .int 0, .int 0, .int 0, .int 0, .int (-1), .int 0, .int 0, .ref m2, .ref m3, .ref m4, .int 0, .ref m5, .ref m6, .ref m7, .int 0, .ref m8, .ref m9, .ref m10, .int 1, .int 0, .ref m11, .ref m12, .ref m13, .int 0, .int 0, .ref m14, .int 0, .ref m15, .ref m16, .ref m17, .int 0, .int 0, .ref m18, .ref m19, .ref m20, .int 0, .ref m21]))]) [0] (by decide) rfl
  refine W.widen (k := 0) (n := 0) (Nat.le_of_ble_eq_true rfl) (Nat.le_of_ble_eq_true rfl) ?_
  exact W.iret (v := (-1)) hx hb hr (fun t ht hW => ⟨⟨(-1), (), rfl, rfl, by rw [ht]; exact hP9, hD9⟩, hS.F ht⟩) hS.2.2 dX7_see_62

set_option maxHeartbeats 4000000 in
set_option maxRecDepth 100000 in
/-- fail() at 0 -/
theorem c_X7_fail (l : Launch) (dC : Nat → ClassId) (dI : Nat → Nat → Nat) (cI cZ cL : ClassId) (h0 : Nat) (sz : Nat) (m1 m2 m3 m4 m5 m6 m7 m8 m9 m10 m11 m12 m13 m14 m15 m16 m17 m18 m19 m20 m21 : Nat) : Met l yX7_fail (wd yX7_fail cX7_fail 1 none) ({ frames := 0, cells := 0, slots := 0, locals := 0 }) (va_Pc [.ref h0] (hp dC dI cI cZ cL sz [(h0, .inr (7, [.int 0, .ref m1, .int 0, .int 0, .int 0, .int 0, .int (-1), .int 0, .int 0, .ref m2, .ref m3, .ref m4, .int 0, .ref m5, .ref m6, .ref m7, .int 0, .ref m8, .ref m9, .ref m10, .int 1, .int 0, .ref m11, .ref m12, .ref m13, .int 0, .int 0, .ref m14, .int 0, .ref m15, .ref m16, .ref m17, .int 0, .int 0, .ref m18, .ref m19, .ref m20, .int 0, .ref m21]))])) (va_Qv (fun (_ : Unit) => True) (fun (_ : Unit) t => va_P (dC, dI) vwCl [(h0, .inr (7, [.int 0, .ref m1, .int 0, .int 0, .int 0, .int 1, .int 0, .int 0, .int 0, .ref m2, .ref m3, .ref m4, .int 0, .ref m5, .ref m6, .ref m7, .int 0, .ref m8, .ref m9, .ref m10, .int 1, .int 0, .ref m11, .ref m12, .ref m13, .int 0, .int 0, .ref m14, .int 0, .ref m15, .ref m16, .ref m17, .int 0, .int 0, .ref m18, .ref m19, .ref m20, .int 0, .ref m21]))] t.heap ∧ va_D (va_A [(h0, .inr (7, [.int 0, .ref m1, .int 0, .int 0, .int 0, .int 0, .int (-1), .int 0, .int 0, .ref m2, .ref m3, .ref m4, .int 0, .ref m5, .ref m6, .ref m7, .int 0, .ref m8, .ref m9, .ref m10, .int 1, .int 0, .ref m11, .ref m12, .ref m13, .int 0, .int 0, .ref m14, .int 0, .ref m15, .ref m16, .ref m17, .int 0, .int 0, .ref m18, .ref m19, .ref m20, .int 0, .ref m21]))] sz) [(h0, .inr (7, [.int 0, .ref m1, .int 0, .int 0, .int 0, .int 1, .int 0, .int 0, .int 0, .ref m2, .ref m3, .ref m4, .int 0, .ref m5, .ref m6, .ref m7, .int 0, .ref m8, .ref m9, .ref m10, .int 1, .int 0, .ref m11, .ref m12, .ref m13, .int 0, .int 0, .ref m14, .int 0, .ref m15, .ref m16, .ref m17, .int 0, .int 0, .ref m18, .ref m19, .ref m20, .int 0, .ref m21]))]) (va_A [(h0, .inr (7, [.int 0, .ref m1, .int 0, .int 0, .int 0, .int 0, .int (-1), .int 0, .int 0, .ref m2, .ref m3, .ref m4, .int 0, .ref m5, .ref m6, .ref m7, .int 0, .ref m8, .ref m9, .ref m10, .int 1, .int 0, .ref m11, .ref m12, .ref m13, .int 0, .int 0, .ref m14, .int 0, .ref m15, .ref m16, .ref m17, .int 0, .int 0, .ref m18, .ref m19, .ref m20, .int 0, .ref m21]))] sz)) 0 0 (va_A [(h0, .inr (7, [.int 0, .ref m1, .int 0, .int 0, .int 0, .int 0, .int (-1), .int 0, .int 0, .ref m2, .ref m3, .ref m4, .int 0, .ref m5, .ref m6, .ref m7, .int 0, .ref m8, .ref m9, .ref m10, .int 1, .int 0, .ref m11, .ref m12, .ref m13, .int 0, .int 0, .ref m14, .int 0, .ref m15, .ref m16, .ref m17, .int 0, .int 0, .ref m18, .ref m19, .ref m20, .int 0, .ref m21]))] sz) := by
  refine Met.ofW (cc := cX7_fail) (maxL := 1) (ret := none) (by decide) rfl ?_
  intro p e s m args below meth c s₁ B hml hv
  obtain ⟨rfl, hsz, hP, hK, hD0⟩ := hv
  have hx := B.exec
  have hb := B.bytes
  have hr := B.returns
  have hw9 := atoms_spec (ws := (wd yX7_fail cX7_fail 1 none)) B.pre
  have hg := gw_hts hw9
  have hown : s.vm.findClass RX7 = some m.cls := findClass_of_methodNamed B.named
  have hlocks := B.notSynchronized
  subst hsz
  have hD := hD0.self (sz := s.heap.size)
  generalize hAe : va_A [(h0, .inr (7, [.int 0, .ref m1, .int 0, .int 0, .int 0, .int 0, .int (-1), .int 0, .int 0, .ref m2, .ref m3, .ref m4, .int 0, .ref m5, .ref m6, .ref m7, .int 0, .ref m8, .ref m9, .ref m10, .int 1, .int 0, .ref m11, .ref m12, .ref m13, .int 0, .int 0, .ref m14, .int 0, .ref m15, .ref m16, .ref m17, .int 0, .int 0, .ref m18, .ref m19, .ref m20, .int 0, .ref m21]))] s.heap.size = A at hD ⊢
  have hA : ∀ q : Nat, s.heap.size ≤ q → A q := fun q h => by rw [← hAe]; exact Or.inr h
  have hS : va_S A s.heap s.heap [] := va_S.rf
  have hl := lv_entry ([.ref h0]) (n := 1) (Nat.le_of_ble_eq_true rfl)
  rw [lg_entry_eq]
  generalize (lg_sl ([.ref h0]) ++ List.replicate (1 - (lg_sl ([.ref h0])).length) Slot.unset).toArray = ls at hl ⊢
  have hl : lv_has ls 1 [(0, .ref h0)] := hl
  refine lv_aload_n hx hb dX7_fail_0 rfl (lv_at hl 0 rfl) ?_
  refine va_get (D := (dC, dI)) (ci := 7) (v := .int 0) (C := RX7) (T := TX7) (N := 39) hx hb hg i_X7 hown hK hP 0 rfl rfl 5 (by decide) (hg _ k_229) (fun _ h9 => h9) rfl dX7_fail_1 ?_
  refine lv_if_eq (tgt := 8) hx hb dX7_fail_4 (by decide) (fun _ => ?_) (fun c9 => absurd (by decide) c9)
  refine lv_aload_n hx hb dX7_fail_8 rfl (lv_at hl 0 rfl) ?_
  refine lv_iconst (v := 1) hx hb dX7_fail_9 (by decide) ?_
  refine va_put (D := (dC, dI)) (ci := 7) (v := .int 1) (ty := .boolean) (C := RX7) (T := TX7) (N := 39) hx hb hg i_X7 tyX7 tyX7_ok nmX7 hown hK hP hD hS 0 rfl rfl 5 (by decide) (hg _ k_229) (fun _ h9 => h9) rfl (by decide +kernel) rfl rfl (Nat.le_of_ble_eq_true rfl) dX7_fail_10 (fun H locs hP hD hS => ?_)
  have hP : va_P (dC, dI) vwCl [(h0, .inr (7, [.int 0, .ref m1, .int 0, .int 0, .int 0, .int 1, .int (-1), .int 0, .int 0, .ref m2, .ref m3, .ref m4, .int 0, .ref m5, .ref m6, .ref m7, .int 0, .ref m8, .ref m9, .ref m10, .int 1, .int 0, .ref m11, .ref m12, .ref m13, .int 0, .int 0, .ref m14, .int 0, .ref m15, .ref m16, .ref m17, .int 0, .int 0, .ref m18, .ref m19, .ref m20, .int 0, .ref m21]))] H := hP
  have hD : va_D A [(h0, .inr (7, [.int 0, .ref m1, .int 0, .int 0, .int 0, .int 1, .int (-1), .int 0, .int 0, .ref m2, .ref m3, .ref m4, .int 0, .ref m5, .ref m6, .ref m7, .int 0, .ref m8, .ref m9, .ref m10, .int 1, .int 0, .ref m11, .ref m12, .ref m13, .int 0, .int 0, .ref m14, .int 0, .ref m15, .ref m16, .ref m17, .int 0, .int 0, .ref m18, .ref m19, .ref m20, .int 0, .ref m21]))] := hD
  refine lv_aload_n hx hb dX7_fail_13 rfl (lv_at hl 0 rfl) ?_
  refine lv_aload_n hx hb dX7_fail_14 rfl (lv_at hl 0 rfl) ?_
  refine va_get (D := (dC, dI)) (ci := 7) (v := .int 0) (C := RX7) (T := TX7) (N := 39) hx hb hg i_X7 hown hK hP 0 rfl rfl 4 (by decide) (hg _ k_227) (fun _ h9 => h9) rfl dX7_fail_15 ?_
  refine va_put (D := (dC, dI)) (ci := 7) (v := .int 0) (ty := .int) (C := RX7) (T := TX7) (N := 39) hx hb hg i_X7 tyX7 tyX7_ok nmX7 hown hK hP hD hS 0 rfl rfl 6 (by decide) (hg _ k_99) (fun _ h9 => h9) rfl (by decide +kernel) rfl rfl (Nat.le_of_ble_eq_true rfl) dX7_fail_18 (fun H locs hP hD hS => ?_)
  have hP : va_P (dC, dI) vwCl [(h0, .inr (7, [.int 0, .ref m1, .int 0, .int 0, .int 0, .int 1, .int 0, .int 0, .int 0, .ref m2, .ref m3, .ref m4, .int 0, .ref m5, .ref m6, .ref m7, .int 0, .ref m8, .ref m9, .ref m10, .int 1, .int 0, .ref m11, .ref m12, .ref m13, .int 0, .int 0, .ref m14, .int 0, .ref m15, .ref m16, .ref m17, .int 0, .int 0, .ref m18, .ref m19, .ref m20, .int 0, .ref m21]))] H := hP
  have hD : va_D A [(h0, .inr (7, [.int 0, .ref m1, .int 0, .int 0, .int 0, .int 1, .int 0, .int 0, .int 0, .ref m2, .ref m3, .ref m4, .int 0, .ref m5, .ref m6, .ref m7, .int 0, .ref m8, .ref m9, .ref m10, .int 1, .int 0, .ref m11, .ref m12, .ref m13, .int 0, .int 0, .ref m14, .int 0, .ref m15, .ref m16, .ref m17, .int 0, .int 0, .ref m18, .ref m19, .ref m20, .int 0, .ref m21]))] := hD
  have hP9 := hP.sub (ws' := [(h0, .inr (7, [.int 0, .ref m1, .int 0, .int 0, .int 0, .int 1, .int 0, .int 0, .int 0, .ref m2, .ref m3, .ref m4, .int 0, .ref m5, .ref m6, .ref m7, .int 0, .ref m8, .ref m9, .ref m10, .int 1, .int 0, .ref m11, .ref m12, .ref m13, .int 0, .int 0, .ref m14, .int 0, .ref m15, .ref m16, .ref m17, .int 0, .int 0, .ref m18, .ref m19, .ref m20, .int 0, .ref m21]))]) [0] rfl
  have hD9 := hD.sub (ws' := [(h0, .inr (7, [.int 0, .ref m1, .int 0, .int 0, .int 0, .int 1, .int 0, .int 0, .int 0, .ref m2, .ref m3, .ref m4, .int 0, .ref m5, .ref m6, .ref m7, .int 0, .ref m8, .ref m9, .ref m10, .int 1, .int 0, .ref m11, .ref m12, .ref m13, .int 0, .int 0, .ref m14, .int 0, .ref m15, .ref m16, .ref m17, .int 0, .int 0, .ref m18, .ref m19, .ref m20, .int 0, .ref m21]))]) [0] (by decide) rfl
  refine W.widen (k := 0) (n := 0) (Nat.le_of_ble_eq_true rfl) (Nat.le_of_ble_eq_true rfl) ?_
  exact W.vret hx hb hr (fun t ht hW => ⟨⟨(), rfl, trivial, by rw [ht]; exact hP9, hD9⟩, hS.F ht⟩) hS.2.2 dX7_fail_21

set_option maxHeartbeats 4000000 in
set_option maxRecDepth 100000 in
/-- isLetter(NONE) -/
theorem c_X7_isLetter (l : Launch) (dC : Nat → ClassId) (dI : Nat → Nat → Nat) (cI cZ cL : ClassId) (sz : Nat)  : Met l yX7_isLetter (wd yX7_isLetter cX7_isLetter 1 (some .boolean)) ({ frames := 0, cells := 0, slots := 0, locals := 0 }) (va_Pc [.int (-1)] (hp dC dI cI cZ cL sz [])) (va_Qi (fun (r : Int32) (_ : Unit) => r = 0) (fun (_ : Unit) t => va_P (dC, dI) vwCl [] t.heap ∧ va_D (va_A [] sz) []) (va_A [] sz)) 0 0 (va_A [] sz) := by
  refine Met.ofW (cc := cX7_isLetter) (maxL := 1) (ret := (some .boolean)) (by decide) rfl ?_
  intro p e s m args below meth c s₁ B hml hv
  obtain ⟨rfl, hsz, hP, hK, hD0⟩ := hv
  have hx := B.exec
  have hb := B.bytes
  have hr := B.returns
  have hw9 := atoms_spec (ws := (wd yX7_isLetter cX7_isLetter 1 (some .boolean))) B.pre
  have hg := gw_hts hw9
  have hown : s.vm.findClass RX7 = some m.cls := findClass_of_methodNamed B.named
  have hlocks := B.notSynchronized
  subst hsz
  have hD := hD0.self (sz := s.heap.size)
  generalize hAe : va_A [] s.heap.size = A at hD ⊢
  have hA : ∀ q : Nat, s.heap.size ≤ q → A q := fun q h => by rw [← hAe]; exact Or.inr h
  have hS : va_S A s.heap s.heap [] := va_S.rf
  have hl := lv_entry ([.int (-1)]) (n := 1) (Nat.le_of_ble_eq_true rfl)
  rw [lg_entry_eq]
  generalize (lg_sl ([.int (-1)]) ++ List.replicate (1 - (lg_sl ([.int (-1)])).length) Slot.unset).toArray = ls at hl ⊢
  have hl : lv_has ls 1 [(0, .int (-1))] := hl
  refine lv_iload_n hx hb dX7_isLetter_0 rfl (lv_at hl 0 rfl) ?_
  refine lv_bipush (v := 97) hx hb dX7_isLetter_1 (by decide) ?_
  refine lv_icmp_lt (tgt := 16) hx hb dX7_isLetter_3 (by decide) (fun _ => ?_) (fun c9 => absurd (by decide) c9)
  refine lv_iconst (v := 0) hx hb dX7_isLetter_16 (by decide) ?_
  have hP9 := hP.sub (ws' := []) [] rfl
  have hD9 := hD.sub (ws' := []) [] (by decide) rfl
  refine W.widen (k := 0) (n := 0) (Nat.le_of_ble_eq_true rfl) (Nat.le_of_ble_eq_true rfl) ?_
  exact W.zret (ty := .boolean) (v := 0) hx hb hr (by decide) (fun t ht hW => ⟨⟨0, (), rfl, rfl, by rw [ht]; exact hP9, hD9⟩, hS.F ht⟩) hS.2.2 dX7_isLetter_17

set_option maxHeartbeats 4000000 in
set_option maxRecDepth 100000 in
/-- open(0, 0, 0), the first -/
theorem c_X7_open (l : Launch) (dC : Nat → ClassId) (dI : Nat → Nat → Nat) (cI cZ cL : ClassId) (h0 m8 m9 m10 : Nat) (sz : Nat) (m1 m2 m3 m4 m5 m6 m7 m11 m12 m13 m14 m15 m16 m17 m18 m19 m20 m21 : Nat) : Met l yX7_open (wd yX7_open cX7_open 4 none) ({ frames := 0, cells := 0, slots := 0, locals := 0 }) (va_Pc [.ref h0, .int 0, .int 0, .int 0] (hp dC dI cI cZ cL sz [(h0, .inr (7, [.int 0, .ref m1, .int 0, .int 0, .int 0, .int 0, .int (-1), .int 0, .int 0, .ref m2, .ref m3, .ref m4, .int 0, .ref m5, .ref m6, .ref m7, .int 0, .ref m8, .ref m9, .ref m10, .int 0, .int 0, .ref m11, .ref m12, .ref m13, .int 0, .int 0, .ref m14, .int 0, .ref m15, .ref m16, .ref m17, .int 0, .int 0, .ref m18, .ref m19, .ref m20, .int 0, .ref m21])), (m8, .inl (cI, 130, .inl zI)), (m9, .inl (cI, 130, .inl zI)), (m10, .inl (cI, 130, .inl zI))])) (va_Qv (fun (_ : Unit) => True) (fun (_ : Unit) t => va_P (dC, dI) vwCl [(h0, .inr (7, [.int 0, .ref m1, .int 0, .int 0, .int 0, .int 0, .int (-1), .int 0, .int 0, .ref m2, .ref m3, .ref m4, .int 0, .ref m5, .ref m6, .ref m7, .int 0, .ref m8, .ref m9, .ref m10, .int 1, .int 0, .ref m11, .ref m12, .ref m13, .int 0, .int 0, .ref m14, .int 0, .ref m15, .ref m16, .ref m17, .int 0, .int 0, .ref m18, .ref m19, .ref m20, .int 0, .ref m21]))] t.heap ∧ va_D (va_A [(h0, .inr (7, [.int 0, .ref m1, .int 0, .int 0, .int 0, .int 0, .int (-1), .int 0, .int 0, .ref m2, .ref m3, .ref m4, .int 0, .ref m5, .ref m6, .ref m7, .int 0, .ref m8, .ref m9, .ref m10, .int 0, .int 0, .ref m11, .ref m12, .ref m13, .int 0, .int 0, .ref m14, .int 0, .ref m15, .ref m16, .ref m17, .int 0, .int 0, .ref m18, .ref m19, .ref m20, .int 0, .ref m21])), (m8, .inl (cI, 130, .inl zI)), (m9, .inl (cI, 130, .inl zI)), (m10, .inl (cI, 130, .inl zI))] sz) [(h0, .inr (7, [.int 0, .ref m1, .int 0, .int 0, .int 0, .int 0, .int (-1), .int 0, .int 0, .ref m2, .ref m3, .ref m4, .int 0, .ref m5, .ref m6, .ref m7, .int 0, .ref m8, .ref m9, .ref m10, .int 1, .int 0, .ref m11, .ref m12, .ref m13, .int 0, .int 0, .ref m14, .int 0, .ref m15, .ref m16, .ref m17, .int 0, .int 0, .ref m18, .ref m19, .ref m20, .int 0, .ref m21]))]) (va_A [(h0, .inr (7, [.int 0, .ref m1, .int 0, .int 0, .int 0, .int 0, .int (-1), .int 0, .int 0, .ref m2, .ref m3, .ref m4, .int 0, .ref m5, .ref m6, .ref m7, .int 0, .ref m8, .ref m9, .ref m10, .int 0, .int 0, .ref m11, .ref m12, .ref m13, .int 0, .int 0, .ref m14, .int 0, .ref m15, .ref m16, .ref m17, .int 0, .int 0, .ref m18, .ref m19, .ref m20, .int 0, .ref m21])), (m8, .inl (cI, 130, .inl zI)), (m9, .inl (cI, 130, .inl zI)), (m10, .inl (cI, 130, .inl zI))] sz)) 0 0 (va_A [(h0, .inr (7, [.int 0, .ref m1, .int 0, .int 0, .int 0, .int 0, .int (-1), .int 0, .int 0, .ref m2, .ref m3, .ref m4, .int 0, .ref m5, .ref m6, .ref m7, .int 0, .ref m8, .ref m9, .ref m10, .int 0, .int 0, .ref m11, .ref m12, .ref m13, .int 0, .int 0, .ref m14, .int 0, .ref m15, .ref m16, .ref m17, .int 0, .int 0, .ref m18, .ref m19, .ref m20, .int 0, .ref m21])), (m8, .inl (cI, 130, .inl zI)), (m9, .inl (cI, 130, .inl zI)), (m10, .inl (cI, 130, .inl zI))] sz) := by
  refine Met.ofW (cc := cX7_open) (maxL := 4) (ret := none) (by decide) rfl ?_
  intro p e s m args below meth c s₁ B hml hv
  obtain ⟨rfl, hsz, hP, hK, hD0⟩ := hv
  have hx := B.exec
  have hb := B.bytes
  have hr := B.returns
  have hw9 := atoms_spec (ws := (wd yX7_open cX7_open 4 none)) B.pre
  have hg := gw_hts hw9
  have hown : s.vm.findClass RX7 = some m.cls := findClass_of_methodNamed B.named
  have hlocks := B.notSynchronized
  subst hsz
  have hD := hD0.self (sz := s.heap.size)
  generalize hAe : va_A [(h0, .inr (7, [.int 0, .ref m1, .int 0, .int 0, .int 0, .int 0, .int (-1), .int 0, .int 0, .ref m2, .ref m3, .ref m4, .int 0, .ref m5, .ref m6, .ref m7, .int 0, .ref m8, .ref m9, .ref m10, .int 0, .int 0, .ref m11, .ref m12, .ref m13, .int 0, .int 0, .ref m14, .int 0, .ref m15, .ref m16, .ref m17, .int 0, .int 0, .ref m18, .ref m19, .ref m20, .int 0, .ref m21])), (m8, .inl (cI, 130, .inl zI)), (m9, .inl (cI, 130, .inl zI)), (m10, .inl (cI, 130, .inl zI))] s.heap.size = A at hD ⊢
  have hA : ∀ q : Nat, s.heap.size ≤ q → A q := fun q h => by rw [← hAe]; exact Or.inr h
  have hS : va_S A s.heap s.heap [] := va_S.rf
  have hl := lv_entry ([.ref h0, .int 0, .int 0, .int 0]) (n := 4) (Nat.le_of_ble_eq_true rfl)
  rw [lg_entry_eq]
  generalize (lg_sl ([.ref h0, .int 0, .int 0, .int 0]) ++ List.replicate (4 - (lg_sl ([.ref h0, .int 0, .int 0, .int 0])).length) Slot.unset).toArray = ls at hl ⊢
  have hl : lv_has ls 4 [(0, .ref h0), (1, .int 0), (2, .int 0), (3, .int 0)] := hl
  refine lv_aload_n hx hb dX7_open_0 rfl (lv_at hl 0 rfl) ?_
  refine va_get (D := (dC, dI)) (ci := 7) (v := .ref m8) (C := RX7) (T := TX7) (N := 39) hx hb hg i_X7 hown hK hP 0 rfl rfl 17 (by decide) (hg _ k_107) (fun _ h9 => h9) rfl dX7_open_1 ?_
  refine lv_aload_n hx hb dX7_open_4 rfl (lv_at hl 0 rfl) ?_
  refine va_get (D := (dC, dI)) (ci := 7) (v := .int 0) (C := RX7) (T := TX7) (N := 39) hx hb hg i_X7 hown hK hP 0 rfl rfl 20 (by decide) (hg _ k_230) (fun _ h9 => h9) rfl dX7_open_5 ?_
  refine lv_iload_n hx hb dX7_open_8 rfl (lv_at hl 1 rfl) ?_
  refine va_iast hx hb hK hP hD hS 1 0 rfl rfl (vp_lit (by decide) (by decide)) dX7_open_9 (fun H locs hP hD hS => ?_)
  generalize upd zI (Int32.toNatClampNeg 0) (0 : Int32) = f1 at hP hD
  have hP : va_P (dC, dI) vwCl [(h0, .inr (7, [.int 0, .ref m1, .int 0, .int 0, .int 0, .int 0, .int (-1), .int 0, .int 0, .ref m2, .ref m3, .ref m4, .int 0, .ref m5, .ref m6, .ref m7, .int 0, .ref m8, .ref m9, .ref m10, .int 0, .int 0, .ref m11, .ref m12, .ref m13, .int 0, .int 0, .ref m14, .int 0, .ref m15, .ref m16, .ref m17, .int 0, .int 0, .ref m18, .ref m19, .ref m20, .int 0, .ref m21])), (m8, .inl (cI, 130, .inl f1)), (m9, .inl (cI, 130, .inl zI)), (m10, .inl (cI, 130, .inl zI))] H := hP
  have hD : va_D A [(h0, .inr (7, [.int 0, .ref m1, .int 0, .int 0, .int 0, .int 0, .int (-1), .int 0, .int 0, .ref m2, .ref m3, .ref m4, .int 0, .ref m5, .ref m6, .ref m7, .int 0, .ref m8, .ref m9, .ref m10, .int 0, .int 0, .ref m11, .ref m12, .ref m13, .int 0, .int 0, .ref m14, .int 0, .ref m15, .ref m16, .ref m17, .int 0, .int 0, .ref m18, .ref m19, .ref m20, .int 0, .ref m21])), (m8, .inl (cI, 130, .inl f1)), (m9, .inl (cI, 130, .inl zI)), (m10, .inl (cI, 130, .inl zI))] := hD
  refine lv_aload_n hx hb dX7_open_10 rfl (lv_at hl 0 rfl) ?_
  refine va_get (D := (dC, dI)) (ci := 7) (v := .ref m9) (C := RX7) (T := TX7) (N := 39) hx hb hg i_X7 hown hK hP 0 rfl rfl 18 (by decide) (hg _ k_108) (fun _ h9 => h9) rfl dX7_open_11 ?_
  refine lv_aload_n hx hb dX7_open_14 rfl (lv_at hl 0 rfl) ?_
  refine va_get (D := (dC, dI)) (ci := 7) (v := .int 0) (C := RX7) (T := TX7) (N := 39) hx hb hg i_X7 hown hK hP 0 rfl rfl 20 (by decide) (hg _ k_230) (fun _ h9 => h9) rfl dX7_open_15 ?_
  refine lv_iload_n hx hb dX7_open_18 rfl (lv_at hl 2 rfl) ?_
  refine va_iast hx hb hK hP hD hS 2 0 rfl rfl (vp_lit (by decide) (by decide)) dX7_open_19 (fun H locs hP hD hS => ?_)
  generalize upd zI (Int32.toNatClampNeg 0) (0 : Int32) = f2 at hP hD
  have hP : va_P (dC, dI) vwCl [(h0, .inr (7, [.int 0, .ref m1, .int 0, .int 0, .int 0, .int 0, .int (-1), .int 0, .int 0, .ref m2, .ref m3, .ref m4, .int 0, .ref m5, .ref m6, .ref m7, .int 0, .ref m8, .ref m9, .ref m10, .int 0, .int 0, .ref m11, .ref m12, .ref m13, .int 0, .int 0, .ref m14, .int 0, .ref m15, .ref m16, .ref m17, .int 0, .int 0, .ref m18, .ref m19, .ref m20, .int 0, .ref m21])), (m8, .inl (cI, 130, .inl f1)), (m9, .inl (cI, 130, .inl f2)), (m10, .inl (cI, 130, .inl zI))] H := hP
  have hD : va_D A [(h0, .inr (7, [.int 0, .ref m1, .int 0, .int 0, .int 0, .int 0, .int (-1), .int 0, .int 0, .ref m2, .ref m3, .ref m4, .int 0, .ref m5, .ref m6, .ref m7, .int 0, .ref m8, .ref m9, .ref m10, .int 0, .int 0, .ref m11, .ref m12, .ref m13, .int 0, .int 0, .ref m14, .int 0, .ref m15, .ref m16, .ref m17, .int 0, .int 0, .ref m18, .ref m19, .ref m20, .int 0, .ref m21])), (m8, .inl (cI, 130, .inl f1)), (m9, .inl (cI, 130, .inl f2)), (m10, .inl (cI, 130, .inl zI))] := hD
  refine lv_aload_n hx hb dX7_open_20 rfl (lv_at hl 0 rfl) ?_
  refine va_get (D := (dC, dI)) (ci := 7) (v := .ref m10) (C := RX7) (T := TX7) (N := 39) hx hb hg i_X7 hown hK hP 0 rfl rfl 19 (by decide) (hg _ k_109) (fun _ h9 => h9) rfl dX7_open_21 ?_
  refine lv_aload_n hx hb dX7_open_24 rfl (lv_at hl 0 rfl) ?_
  refine va_get (D := (dC, dI)) (ci := 7) (v := .int 0) (C := RX7) (T := TX7) (N := 39) hx hb hg i_X7 hown hK hP 0 rfl rfl 20 (by decide) (hg _ k_230) (fun _ h9 => h9) rfl dX7_open_25 ?_
  refine lv_iload_n hx hb dX7_open_28 rfl (lv_at hl 3 rfl) ?_
  refine va_iast hx hb hK hP hD hS 3 0 rfl rfl (vp_lit (by decide) (by decide)) dX7_open_29 (fun H locs hP hD hS => ?_)
  generalize upd zI (Int32.toNatClampNeg 0) (0 : Int32) = f3 at hP hD
  have hP : va_P (dC, dI) vwCl [(h0, .inr (7, [.int 0, .ref m1, .int 0, .int 0, .int 0, .int 0, .int (-1), .int 0, .int 0, .ref m2, .ref m3, .ref m4, .int 0, .ref m5, .ref m6, .ref m7, .int 0, .ref m8, .ref m9, .ref m10, .int 0, .int 0, .ref m11, .ref m12, .ref m13, .int 0, .int 0, .ref m14, .int 0, .ref m15, .ref m16, .ref m17, .int 0, .int 0, .ref m18, .ref m19, .ref m20, .int 0, .ref m21])), (m8, .inl (cI, 130, .inl f1)), (m9, .inl (cI, 130, .inl f2)), (m10, .inl (cI, 130, .inl f3))] H := hP
  have hD : va_D A [(h0, .inr (7, [.int 0, .ref m1, .int 0, .int 0, .int 0, .int 0, .int (-1), .int 0, .int 0, .ref m2, .ref m3, .ref m4, .int 0, .ref m5, .ref m6, .ref m7, .int 0, .ref m8, .ref m9, .ref m10, .int 0, .int 0, .ref m11, .ref m12, .ref m13, .int 0, .int 0, .ref m14, .int 0, .ref m15, .ref m16, .ref m17, .int 0, .int 0, .ref m18, .ref m19, .ref m20, .int 0, .ref m21])), (m8, .inl (cI, 130, .inl f1)), (m9, .inl (cI, 130, .inl f2)), (m10, .inl (cI, 130, .inl f3))] := hD
  refine lv_aload_n hx hb dX7_open_30 rfl (lv_at hl 0 rfl) ?_
  refine lv_dup hx hb dX7_open_31 rfl ?_
  refine va_get (D := (dC, dI)) (ci := 7) (v := .int 0) (C := RX7) (T := TX7) (N := 39) hx hb hg i_X7 hown hK hP 0 rfl rfl 20 (by decide) (hg _ k_230) (fun _ h9 => h9) rfl dX7_open_32 ?_
  refine lv_iconst (v := 1) hx hb dX7_open_35 (by decide) ?_
  refine lv_iadd hx hb dX7_open_36 ?_
  refine lv_topi (fun z4 ez4 => ?_)
  obtain rfl : z4 = 1 := ez4.trans (by decide)
  refine va_put (D := (dC, dI)) (ci := 7) (v := .int 1) (ty := .int) (C := RX7) (T := TX7) (N := 39) hx hb hg i_X7 tyX7 tyX7_ok nmX7 hown hK hP hD hS 0 rfl rfl 20 (by decide) (hg _ k_230) (fun _ h9 => h9) rfl (by decide +kernel) rfl rfl (Nat.le_of_ble_eq_true rfl) dX7_open_37 (fun H locs hP hD hS => ?_)
  have hP : va_P (dC, dI) vwCl [(h0, .inr (7, [.int 0, .ref m1, .int 0, .int 0, .int 0, .int 0, .int (-1), .int 0, .int 0, .ref m2, .ref m3, .ref m4, .int 0, .ref m5, .ref m6, .ref m7, .int 0, .ref m8, .ref m9, .ref m10, .int 1, .int 0, .ref m11, .ref m12, .ref m13, .int 0, .int 0, .ref m14, .int 0, .ref m15, .ref m16, .ref m17, .int 0, .int 0, .ref m18, .ref m19, .ref m20, .int 0, .ref m21])), (m8, .inl (cI, 130, .inl f1)), (m9, .inl (cI, 130, .inl f2)), (m10, .inl (cI, 130, .inl f3))] H := hP
  have hD : va_D A [(h0, .inr (7, [.int 0, .ref m1, .int 0, .int 0, .int 0, .int 0, .int (-1), .int 0, .int 0, .ref m2, .ref m3, .ref m4, .int 0, .ref m5, .ref m6, .ref m7, .int 0, .ref m8, .ref m9, .ref m10, .int 1, .int 0, .ref m11, .ref m12, .ref m13, .int 0, .int 0, .ref m14, .int 0, .ref m15, .ref m16, .ref m17, .int 0, .int 0, .ref m18, .ref m19, .ref m20, .int 0, .ref m21])), (m8, .inl (cI, 130, .inl f1)), (m9, .inl (cI, 130, .inl f2)), (m10, .inl (cI, 130, .inl f3))] := hD
  have hP9 := hP.sub (ws' := [(h0, .inr (7, [.int 0, .ref m1, .int 0, .int 0, .int 0, .int 0, .int (-1), .int 0, .int 0, .ref m2, .ref m3, .ref m4, .int 0, .ref m5, .ref m6, .ref m7, .int 0, .ref m8, .ref m9, .ref m10, .int 1, .int 0, .ref m11, .ref m12, .ref m13, .int 0, .int 0, .ref m14, .int 0, .ref m15, .ref m16, .ref m17, .int 0, .int 0, .ref m18, .ref m19, .ref m20, .int 0, .ref m21]))]) [0] rfl
  have hD9 := hD.sub (ws' := [(h0, .inr (7, [.int 0, .ref m1, .int 0, .int 0, .int 0, .int 0, .int (-1), .int 0, .int 0, .ref m2, .ref m3, .ref m4, .int 0, .ref m5, .ref m6, .ref m7, .int 0, .ref m8, .ref m9, .ref m10, .int 1, .int 0, .ref m11, .ref m12, .ref m13, .int 0, .int 0, .ref m14, .int 0, .ref m15, .ref m16, .ref m17, .int 0, .int 0, .ref m18, .ref m19, .ref m20, .int 0, .ref m21]))]) [0] (by decide) rfl
  refine W.widen (k := 0) (n := 0) (Nat.le_of_ble_eq_true rfl) (Nat.le_of_ble_eq_true rfl) ?_
  exact W.vret hx hb hr (fun t ht hW => ⟨⟨(), rfl, trivial, by rw [ht]; exact hP9, hD9⟩, hS.F ht⟩) hS.2.2 dX7_open_40

set_option maxHeartbeats 4000000 in
set_option maxRecDepth 100000 in
/-- begin(), nothing taped -/
theorem c_X7_begin (l : Launch) (dC : Nat → ClassId) (dI : Nat → Nat → Nat) (cI cZ cL : ClassId) (h0 : Nat) (sz : Nat) (m1 m2 m3 m4 m5 m6 m7 m8 m9 m10 m11 m12 m13 m14 m15 m16 m17 m18 m19 m20 m21 : Nat) : Met l yX7_begin (wd yX7_begin cX7_begin 1 none) ({ frames := 0, cells := 0, slots := 0, locals := 0 }) (va_Pc [.ref h0] (hp dC dI cI cZ cL sz [(h0, .inr (7, [.int 0, .ref m1, .int 0, .int 0, .int 0, .int 0, .int (-1), .int 0, .int 0, .ref m2, .ref m3, .ref m4, .int 0, .ref m5, .ref m6, .ref m7, .int 0, .ref m8, .ref m9, .ref m10, .int 0, .int 0, .ref m11, .ref m12, .ref m13, .int 0, .int 0, .ref m14, .int 0, .ref m15, .ref m16, .ref m17, .int 0, .int 0, .ref m18, .ref m19, .ref m20, .int 0, .ref m21]))])) (va_Qv (fun (_ : Unit) => True) (fun (_ : Unit) t => va_P (dC, dI) vwCl [(h0, .inr (7, [.int 0, .ref m1, .int 0, .int 0, .int 0, .int 0, .int (-1), .int 0, .int 0, .ref m2, .ref m3, .ref m4, .int 0, .ref m5, .ref m6, .ref m7, .int 0, .ref m8, .ref m9, .ref m10, .int 0, .int 0, .ref m11, .ref m12, .ref m13, .int 0, .int 0, .ref m14, .int 0, .ref m15, .ref m16, .ref m17, .int 0, .int 0, .ref m18, .ref m19, .ref m20, .int 0, .ref m21]))] t.heap ∧ va_D (va_A [(h0, .inr (7, [.int 0, .ref m1, .int 0, .int 0, .int 0, .int 0, .int (-1), .int 0, .int 0, .ref m2, .ref m3, .ref m4, .int 0, .ref m5, .ref m6, .ref m7, .int 0, .ref m8, .ref m9, .ref m10, .int 0, .int 0, .ref m11, .ref m12, .ref m13, .int 0, .int 0, .ref m14, .int 0, .ref m15, .ref m16, .ref m17, .int 0, .int 0, .ref m18, .ref m19, .ref m20, .int 0, .ref m21]))] sz) [(h0, .inr (7, [.int 0, .ref m1, .int 0, .int 0, .int 0, .int 0, .int (-1), .int 0, .int 0, .ref m2, .ref m3, .ref m4, .int 0, .ref m5, .ref m6, .ref m7, .int 0, .ref m8, .ref m9, .ref m10, .int 0, .int 0, .ref m11, .ref m12, .ref m13, .int 0, .int 0, .ref m14, .int 0, .ref m15, .ref m16, .ref m17, .int 0, .int 0, .ref m18, .ref m19, .ref m20, .int 0, .ref m21]))]) (va_A [(h0, .inr (7, [.int 0, .ref m1, .int 0, .int 0, .int 0, .int 0, .int (-1), .int 0, .int 0, .ref m2, .ref m3, .ref m4, .int 0, .ref m5, .ref m6, .ref m7, .int 0, .ref m8, .ref m9, .ref m10, .int 0, .int 0, .ref m11, .ref m12, .ref m13, .int 0, .int 0, .ref m14, .int 0, .ref m15, .ref m16, .ref m17, .int 0, .int 0, .ref m18, .ref m19, .ref m20, .int 0, .ref m21]))] sz)) 0 0 (va_A [(h0, .inr (7, [.int 0, .ref m1, .int 0, .int 0, .int 0, .int 0, .int (-1), .int 0, .int 0, .ref m2, .ref m3, .ref m4, .int 0, .ref m5, .ref m6, .ref m7, .int 0, .ref m8, .ref m9, .ref m10, .int 0, .int 0, .ref m11, .ref m12, .ref m13, .int 0, .int 0, .ref m14, .int 0, .ref m15, .ref m16, .ref m17, .int 0, .int 0, .ref m18, .ref m19, .ref m20, .int 0, .ref m21]))] sz) := by
  refine Met.ofW (cc := cX7_begin) (maxL := 1) (ret := none) (by decide) rfl ?_
  intro p e s m args below meth c s₁ B hml hv
  obtain ⟨rfl, hsz, hP, hK, hD0⟩ := hv
  have hx := B.exec
  have hb := B.bytes
  have hr := B.returns
  have hw9 := atoms_spec (ws := (wd yX7_begin cX7_begin 1 none)) B.pre
  have hg := gw_hts hw9
  have hown : s.vm.findClass RX7 = some m.cls := findClass_of_methodNamed B.named
  have hlocks := B.notSynchronized
  subst hsz
  have hD := hD0.self (sz := s.heap.size)
  generalize hAe : va_A [(h0, .inr (7, [.int 0, .ref m1, .int 0, .int 0, .int 0, .int 0, .int (-1), .int 0, .int 0, .ref m2, .ref m3, .ref m4, .int 0, .ref m5, .ref m6, .ref m7, .int 0, .ref m8, .ref m9, .ref m10, .int 0, .int 0, .ref m11, .ref m12, .ref m13, .int 0, .int 0, .ref m14, .int 0, .ref m15, .ref m16, .ref m17, .int 0, .int 0, .ref m18, .ref m19, .ref m20, .int 0, .ref m21]))] s.heap.size = A at hD ⊢
  have hA : ∀ q : Nat, s.heap.size ≤ q → A q := fun q h => by rw [← hAe]; exact Or.inr h
  have hS : va_S A s.heap s.heap [] := va_S.rf
  have hl := lv_entry ([.ref h0]) (n := 1) (Nat.le_of_ble_eq_true rfl)
  rw [lg_entry_eq]
  generalize (lg_sl ([.ref h0]) ++ List.replicate (1 - (lg_sl ([.ref h0])).length) Slot.unset).toArray = ls at hl ⊢
  have hl : lv_has ls 1 [(0, .ref h0)] := hl
  refine lv_aload_n hx hb dX7_begin_0 rfl (lv_at hl 0 rfl) ?_
  refine lv_aload_n hx hb dX7_begin_1 rfl (lv_at hl 0 rfl) ?_
  refine va_get (D := (dC, dI)) (ci := 7) (v := .int 0) (C := RX7) (T := TX7) (N := 39) hx hb hg i_X7 hown hK hP 0 rfl rfl 2 (by decide) (hg _ k_231) (fun _ h9 => h9) rfl dX7_begin_2 ?_
  refine va_put (D := (dC, dI)) (ci := 7) (v := .int 0) (ty := .int) (C := RX7) (T := TX7) (N := 39) hx hb hg i_X7 tyX7 tyX7_ok nmX7 hown hK hP hD hS 0 rfl rfl 3 (by decide) (hg _ k_228) (fun _ h9 => h9) rfl (by decide +kernel) rfl rfl (Nat.le_of_ble_eq_true rfl) dX7_begin_5 (fun H locs hP hD hS => ?_)
  have hP : va_P (dC, dI) vwCl [(h0, .inr (7, [.int 0, .ref m1, .int 0, .int 0, .int 0, .int 0, .int (-1), .int 0, .int 0, .ref m2, .ref m3, .ref m4, .int 0, .ref m5, .ref m6, .ref m7, .int 0, .ref m8, .ref m9, .ref m10, .int 0, .int 0, .ref m11, .ref m12, .ref m13, .int 0, .int 0, .ref m14, .int 0, .ref m15, .ref m16, .ref m17, .int 0, .int 0, .ref m18, .ref m19, .ref m20, .int 0, .ref m21]))] H := hP
  have hD : va_D A [(h0, .inr (7, [.int 0, .ref m1, .int 0, .int 0, .int 0, .int 0, .int (-1), .int 0, .int 0, .ref m2, .ref m3, .ref m4, .int 0, .ref m5, .ref m6, .ref m7, .int 0, .ref m8, .ref m9, .ref m10, .int 0, .int 0, .ref m11, .ref m12, .ref m13, .int 0, .int 0, .ref m14, .int 0, .ref m15, .ref m16, .ref m17, .int 0, .int 0, .ref m18, .ref m19, .ref m20, .int 0, .ref m21]))] := hD
  refine lv_aload_n hx hb dX7_begin_8 rfl (lv_at hl 0 rfl) ?_
  refine lv_iconst (v := 0) hx hb dX7_begin_9 (by decide) ?_
  refine va_put (D := (dC, dI)) (ci := 7) (v := .int 0) (ty := .int) (C := RX7) (T := TX7) (N := 39) hx hb hg i_X7 tyX7 tyX7_ok nmX7 hown hK hP hD hS 0 rfl rfl 2 (by decide) (hg _ k_231) (fun _ h9 => h9) rfl (by decide +kernel) rfl rfl (Nat.le_of_ble_eq_true rfl) dX7_begin_10 (fun H locs hP hD hS => ?_)
  have hP : va_P (dC, dI) vwCl [(h0, .inr (7, [.int 0, .ref m1, .int 0, .int 0, .int 0, .int 0, .int (-1), .int 0, .int 0, .ref m2, .ref m3, .ref m4, .int 0, .ref m5, .ref m6, .ref m7, .int 0, .ref m8, .ref m9, .ref m10, .int 0, .int 0, .ref m11, .ref m12, .ref m13, .int 0, .int 0, .ref m14, .int 0, .ref m15, .ref m16, .ref m17, .int 0, .int 0, .ref m18, .ref m19, .ref m20, .int 0, .ref m21]))] H := hP
  have hD : va_D A [(h0, .inr (7, [.int 0, .ref m1, .int 0, .int 0, .int 0, .int 0, .int (-1), .int 0, .int 0, .ref m2, .ref m3, .ref m4, .int 0, .ref m5, .ref m6, .ref m7, .int 0, .ref m8, .ref m9, .ref m10, .int 0, .int 0, .ref m11, .ref m12, .ref m13, .int 0, .int 0, .ref m14, .int 0, .ref m15, .ref m16, .ref m17, .int 0, .int 0, .ref m18, .ref m19, .ref m20, .int 0, .ref m21]))] := hD
  refine lv_aload_n hx hb dX7_begin_13 rfl (lv_at hl 0 rfl) ?_
  refine lv_iconst (v := 0) hx hb dX7_begin_14 (by decide) ?_
  refine va_put (D := (dC, dI)) (ci := 7) (v := .int 0) (ty := .int) (C := RX7) (T := TX7) (N := 39) hx hb hg i_X7 tyX7 tyX7_ok nmX7 hown hK hP hD hS 0 rfl rfl 4 (by decide) (hg _ k_227) (fun _ h9 => h9) rfl (by decide +kernel) rfl rfl (Nat.le_of_ble_eq_true rfl) dX7_begin_15 (fun H locs hP hD hS => ?_)
  have hP : va_P (dC, dI) vwCl [(h0, .inr (7, [.int 0, .ref m1, .int 0, .int 0, .int 0, .int 0, .int (-1), .int 0, .int 0, .ref m2, .ref m3, .ref m4, .int 0, .ref m5, .ref m6, .ref m7, .int 0, .ref m8, .ref m9, .ref m10, .int 0, .int 0, .ref m11, .ref m12, .ref m13, .int 0, .int 0, .ref m14, .int 0, .ref m15, .ref m16, .ref m17, .int 0, .int 0, .ref m18, .ref m19, .ref m20, .int 0, .ref m21]))] H := hP
  have hD : va_D A [(h0, .inr (7, [.int 0, .ref m1, .int 0, .int 0, .int 0, .int 0, .int (-1), .int 0, .int 0, .ref m2, .ref m3, .ref m4, .int 0, .ref m5, .ref m6, .ref m7, .int 0, .ref m8, .ref m9, .ref m10, .int 0, .int 0, .ref m11, .ref m12, .ref m13, .int 0, .int 0, .ref m14, .int 0, .ref m15, .ref m16, .ref m17, .int 0, .int 0, .ref m18, .ref m19, .ref m20, .int 0, .ref m21]))] := hD
  refine lv_aload_n hx hb dX7_begin_18 rfl (lv_at hl 0 rfl) ?_
  refine lv_iconst (v := 0) hx hb dX7_begin_19 (by decide) ?_
  refine va_put (D := (dC, dI)) (ci := 7) (v := .int 0) (ty := .boolean) (C := RX7) (T := TX7) (N := 39) hx hb hg i_X7 tyX7 tyX7_ok nmX7 hown hK hP hD hS 0 rfl rfl 5 (by decide) (hg _ k_229) (fun _ h9 => h9) rfl (by decide +kernel) rfl rfl (Nat.le_of_ble_eq_true rfl) dX7_begin_20 (fun H locs hP hD hS => ?_)
  have hP : va_P (dC, dI) vwCl [(h0, .inr (7, [.int 0, .ref m1, .int 0, .int 0, .int 0, .int 0, .int (-1), .int 0, .int 0, .ref m2, .ref m3, .ref m4, .int 0, .ref m5, .ref m6, .ref m7, .int 0, .ref m8, .ref m9, .ref m10, .int 0, .int 0, .ref m11, .ref m12, .ref m13, .int 0, .int 0, .ref m14, .int 0, .ref m15, .ref m16, .ref m17, .int 0, .int 0, .ref m18, .ref m19, .ref m20, .int 0, .ref m21]))] H := hP
  have hD : va_D A [(h0, .inr (7, [.int 0, .ref m1, .int 0, .int 0, .int 0, .int 0, .int (-1), .int 0, .int 0, .ref m2, .ref m3, .ref m4, .int 0, .ref m5, .ref m6, .ref m7, .int 0, .ref m8, .ref m9, .ref m10, .int 0, .int 0, .ref m11, .ref m12, .ref m13, .int 0, .int 0, .ref m14, .int 0, .ref m15, .ref m16, .ref m17, .int 0, .int 0, .ref m18, .ref m19, .ref m20, .int 0, .ref m21]))] := hD
  refine lv_aload_n hx hb dX7_begin_23 rfl (lv_at hl 0 rfl) ?_
  refine lv_iconst (v := (-1)) hx hb dX7_begin_24 (by decide) ?_
  refine va_put (D := (dC, dI)) (ci := 7) (v := .int (-1)) (ty := .int) (C := RX7) (T := TX7) (N := 39) hx hb hg i_X7 tyX7 tyX7_ok nmX7 hown hK hP hD hS 0 rfl rfl 6 (by decide) (hg _ k_99) (fun _ h9 => h9) rfl (by decide +kernel) rfl rfl (Nat.le_of_ble_eq_true rfl) dX7_begin_25 (fun H locs hP hD hS => ?_)
  have hP : va_P (dC, dI) vwCl [(h0, .inr (7, [.int 0, .ref m1, .int 0, .int 0, .int 0, .int 0, .int (-1), .int 0, .int 0, .ref m2, .ref m3, .ref m4, .int 0, .ref m5, .ref m6, .ref m7, .int 0, .ref m8, .ref m9, .ref m10, .int 0, .int 0, .ref m11, .ref m12, .ref m13, .int 0, .int 0, .ref m14, .int 0, .ref m15, .ref m16, .ref m17, .int 0, .int 0, .ref m18, .ref m19, .ref m20, .int 0, .ref m21]))] H := hP
  have hD : va_D A [(h0, .inr (7, [.int 0, .ref m1, .int 0, .int 0, .int 0, .int 0, .int (-1), .int 0, .int 0, .ref m2, .ref m3, .ref m4, .int 0, .ref m5, .ref m6, .ref m7, .int 0, .ref m8, .ref m9, .ref m10, .int 0, .int 0, .ref m11, .ref m12, .ref m13, .int 0, .int 0, .ref m14, .int 0, .ref m15, .ref m16, .ref m17, .int 0, .int 0, .ref m18, .ref m19, .ref m20, .int 0, .ref m21]))] := hD
  refine lv_aload_n hx hb dX7_begin_28 rfl (lv_at hl 0 rfl) ?_
  refine lv_iconst (v := 0) hx hb dX7_begin_29 (by decide) ?_
  refine va_put (D := (dC, dI)) (ci := 7) (v := .int 0) (ty := .int) (C := RX7) (T := TX7) (N := 39) hx hb hg i_X7 tyX7 tyX7_ok nmX7 hown hK hP hD hS 0 rfl rfl 7 (by decide) (hg _ k_232) (fun _ h9 => h9) rfl (by decide +kernel) rfl rfl (Nat.le_of_ble_eq_true rfl) dX7_begin_30 (fun H locs hP hD hS => ?_)
  have hP : va_P (dC, dI) vwCl [(h0, .inr (7, [.int 0, .ref m1, .int 0, .int 0, .int 0, .int 0, .int (-1), .int 0, .int 0, .ref m2, .ref m3, .ref m4, .int 0, .ref m5, .ref m6, .ref m7, .int 0, .ref m8, .ref m9, .ref m10, .int 0, .int 0, .ref m11, .ref m12, .ref m13, .int 0, .int 0, .ref m14, .int 0, .ref m15, .ref m16, .ref m17, .int 0, .int 0, .ref m18, .ref m19, .ref m20, .int 0, .ref m21]))] H := hP
  have hD : va_D A [(h0, .inr (7, [.int 0, .ref m1, .int 0, .int 0, .int 0, .int 0, .int (-1), .int 0, .int 0, .ref m2, .ref m3, .ref m4, .int 0, .ref m5, .ref m6, .ref m7, .int 0, .ref m8, .ref m9, .ref m10, .int 0, .int 0, .ref m11, .ref m12, .ref m13, .int 0, .int 0, .ref m14, .int 0, .ref m15, .ref m16, .ref m17, .int 0, .int 0, .ref m18, .ref m19, .ref m20, .int 0, .ref m21]))] := hD
  refine lv_aload_n hx hb dX7_begin_33 rfl (lv_at hl 0 rfl) ?_
  refine lv_iconst (v := 0) hx hb dX7_begin_34 (by decide) ?_
  refine va_put (D := (dC, dI)) (ci := 7) (v := .int 0) (ty := .int) (C := RX7) (T := TX7) (N := 39) hx hb hg i_X7 tyX7 tyX7_ok nmX7 hown hK hP hD hS 0 rfl rfl 8 (by decide) (hg _ k_233) (fun _ h9 => h9) rfl (by decide +kernel) rfl rfl (Nat.le_of_ble_eq_true rfl) dX7_begin_35 (fun H locs hP hD hS => ?_)
  have hP : va_P (dC, dI) vwCl [(h0, .inr (7, [.int 0, .ref m1, .int 0, .int 0, .int 0, .int 0, .int (-1), .int 0, .int 0, .ref m2, .ref m3, .ref m4, .int 0, .ref m5, .ref m6, .ref m7, .int 0, .ref m8, .ref m9, .ref m10, .int 0, .int 0, .ref m11, .ref m12, .ref m13, .int 0, .int 0, .ref m14, .int 0, .ref m15, .ref m16, .ref m17, .int 0, .int 0, .ref m18, .ref m19, .ref m20, .int 0, .ref m21]))] H := hP
  have hD : va_D A [(h0, .inr (7, [.int 0, .ref m1, .int 0, .int 0, .int 0, .int 0, .int (-1), .int 0, .int 0, .ref m2, .ref m3, .ref m4, .int 0, .ref m5, .ref m6, .ref m7, .int 0, .ref m8, .ref m9, .ref m10, .int 0, .int 0, .ref m11, .ref m12, .ref m13, .int 0, .int 0, .ref m14, .int 0, .ref m15, .ref m16, .ref m17, .int 0, .int 0, .ref m18, .ref m19, .ref m20, .int 0, .ref m21]))] := hD
  refine lv_aload_n hx hb dX7_begin_38 rfl (lv_at hl 0 rfl) ?_
  refine lv_iconst (v := 0) hx hb dX7_begin_39 (by decide) ?_
  refine va_put (D := (dC, dI)) (ci := 7) (v := .int 0) (ty := .int) (C := RX7) (T := TX7) (N := 39) hx hb hg i_X7 tyX7 tyX7_ok nmX7 hown hK hP hD hS 0 rfl rfl 12 (by decide) (hg _ k_234) (fun _ h9 => h9) rfl (by decide +kernel) rfl rfl (Nat.le_of_ble_eq_true rfl) dX7_begin_40 (fun H locs hP hD hS => ?_)
  have hP : va_P (dC, dI) vwCl [(h0, .inr (7, [.int 0, .ref m1, .int 0, .int 0, .int 0, .int 0, .int (-1), .int 0, .int 0, .ref m2, .ref m3, .ref m4, .int 0, .ref m5, .ref m6, .ref m7, .int 0, .ref m8, .ref m9, .ref m10, .int 0, .int 0, .ref m11, .ref m12, .ref m13, .int 0, .int 0, .ref m14, .int 0, .ref m15, .ref m16, .ref m17, .int 0, .int 0, .ref m18, .ref m19, .ref m20, .int 0, .ref m21]))] H := hP
  have hD : va_D A [(h0, .inr (7, [.int 0, .ref m1, .int 0, .int 0, .int 0, .int 0, .int (-1), .int 0, .int 0, .ref m2, .ref m3, .ref m4, .int 0, .ref m5, .ref m6, .ref m7, .int 0, .ref m8, .ref m9, .ref m10, .int 0, .int 0, .ref m11, .ref m12, .ref m13, .int 0, .int 0, .ref m14, .int 0, .ref m15, .ref m16, .ref m17, .int 0, .int 0, .ref m18, .ref m19, .ref m20, .int 0, .ref m21]))] := hD
  refine lv_aload_n hx hb dX7_begin_43 rfl (lv_at hl 0 rfl) ?_
  refine lv_iconst (v := 0) hx hb dX7_begin_44 (by decide) ?_
  refine va_put (D := (dC, dI)) (ci := 7) (v := .int 0) (ty := .int) (C := RX7) (T := TX7) (N := 39) hx hb hg i_X7 tyX7 tyX7_ok nmX7 hown hK hP hD hS 0 rfl rfl 16 (by decide) (hg _ k_235) (fun _ h9 => h9) rfl (by decide +kernel) rfl rfl (Nat.le_of_ble_eq_true rfl) dX7_begin_45 (fun H locs hP hD hS => ?_)
  have hP : va_P (dC, dI) vwCl [(h0, .inr (7, [.int 0, .ref m1, .int 0, .int 0, .int 0, .int 0, .int (-1), .int 0, .int 0, .ref m2, .ref m3, .ref m4, .int 0, .ref m5, .ref m6, .ref m7, .int 0, .ref m8, .ref m9, .ref m10, .int 0, .int 0, .ref m11, .ref m12, .ref m13, .int 0, .int 0, .ref m14, .int 0, .ref m15, .ref m16, .ref m17, .int 0, .int 0, .ref m18, .ref m19, .ref m20, .int 0, .ref m21]))] H := hP
  have hD : va_D A [(h0, .inr (7, [.int 0, .ref m1, .int 0, .int 0, .int 0, .int 0, .int (-1), .int 0, .int 0, .ref m2, .ref m3, .ref m4, .int 0, .ref m5, .ref m6, .ref m7, .int 0, .ref m8, .ref m9, .ref m10, .int 0, .int 0, .ref m11, .ref m12, .ref m13, .int 0, .int 0, .ref m14, .int 0, .ref m15, .ref m16, .ref m17, .int 0, .int 0, .ref m18, .ref m19, .ref m20, .int 0, .ref m21]))] := hD
  refine lv_aload_n hx hb dX7_begin_48 rfl (lv_at hl 0 rfl) ?_
  refine lv_iconst (v := 0) hx hb dX7_begin_49 (by decide) ?_
  refine va_put (D := (dC, dI)) (ci := 7) (v := .int 0) (ty := .int) (C := RX7) (T := TX7) (N := 39) hx hb hg i_X7 tyX7 tyX7_ok nmX7 hown hK hP hD hS 0 rfl rfl 20 (by decide) (hg _ k_230) (fun _ h9 => h9) rfl (by decide +kernel) rfl rfl (Nat.le_of_ble_eq_true rfl) dX7_begin_50 (fun H locs hP hD hS => ?_)
  have hP : va_P (dC, dI) vwCl [(h0, .inr (7, [.int 0, .ref m1, .int 0, .int 0, .int 0, .int 0, .int (-1), .int 0, .int 0, .ref m2, .ref m3, .ref m4, .int 0, .ref m5, .ref m6, .ref m7, .int 0, .ref m8, .ref m9, .ref m10, .int 0, .int 0, .ref m11, .ref m12, .ref m13, .int 0, .int 0, .ref m14, .int 0, .ref m15, .ref m16, .ref m17, .int 0, .int 0, .ref m18, .ref m19, .ref m20, .int 0, .ref m21]))] H := hP
  have hD : va_D A [(h0, .inr (7, [.int 0, .ref m1, .int 0, .int 0, .int 0, .int 0, .int (-1), .int 0, .int 0, .ref m2, .ref m3, .ref m4, .int 0, .ref m5, .ref m6, .ref m7, .int 0, .ref m8, .ref m9, .ref m10, .int 0, .int 0, .ref m11, .ref m12, .ref m13, .int 0, .int 0, .ref m14, .int 0, .ref m15, .ref m16, .ref m17, .int 0, .int 0, .ref m18, .ref m19, .ref m20, .int 0, .ref m21]))] := hD
  refine lv_aload_n hx hb dX7_begin_53 rfl (lv_at hl 0 rfl) ?_
  refine lv_iconst (v := 0) hx hb dX7_begin_54 (by decide) ?_
  refine va_put (D := (dC, dI)) (ci := 7) (v := .int 0) (ty := .int) (C := RX7) (T := TX7) (N := 39) hx hb hg i_X7 tyX7 tyX7_ok nmX7 hown hK hP hD hS 0 rfl rfl 21 (by decide) (hg _ k_236) (fun _ h9 => h9) rfl (by decide +kernel) rfl rfl (Nat.le_of_ble_eq_true rfl) dX7_begin_55 (fun H locs hP hD hS => ?_)
  have hP : va_P (dC, dI) vwCl [(h0, .inr (7, [.int 0, .ref m1, .int 0, .int 0, .int 0, .int 0, .int (-1), .int 0, .int 0, .ref m2, .ref m3, .ref m4, .int 0, .ref m5, .ref m6, .ref m7, .int 0, .ref m8, .ref m9, .ref m10, .int 0, .int 0, .ref m11, .ref m12, .ref m13, .int 0, .int 0, .ref m14, .int 0, .ref m15, .ref m16, .ref m17, .int 0, .int 0, .ref m18, .ref m19, .ref m20, .int 0, .ref m21]))] H := hP
  have hD : va_D A [(h0, .inr (7, [.int 0, .ref m1, .int 0, .int 0, .int 0, .int 0, .int (-1), .int 0, .int 0, .ref m2, .ref m3, .ref m4, .int 0, .ref m5, .ref m6, .ref m7, .int 0, .ref m8, .ref m9, .ref m10, .int 0, .int 0, .ref m11, .ref m12, .ref m13, .int 0, .int 0, .ref m14, .int 0, .ref m15, .ref m16, .ref m17, .int 0, .int 0, .ref m18, .ref m19, .ref m20, .int 0, .ref m21]))] := hD
  refine lv_aload_n hx hb dX7_begin_58 rfl (lv_at hl 0 rfl) ?_
  refine lv_iconst (v := 0) hx hb dX7_begin_59 (by decide) ?_
  refine va_put (D := (dC, dI)) (ci := 7) (v := .int 0) (ty := .int) (C := RX7) (T := TX7) (N := 39) hx hb hg i_X7 tyX7 tyX7_ok nmX7 hown hK hP hD hS 0 rfl rfl 25 (by decide) (hg _ k_237) (fun _ h9 => h9) rfl (by decide +kernel) rfl rfl (Nat.le_of_ble_eq_true rfl) dX7_begin_60 (fun H locs hP hD hS => ?_)
  have hP : va_P (dC, dI) vwCl [(h0, .inr (7, [.int 0, .ref m1, .int 0, .int 0, .int 0, .int 0, .int (-1), .int 0, .int 0, .ref m2, .ref m3, .ref m4, .int 0, .ref m5, .ref m6, .ref m7, .int 0, .ref m8, .ref m9, .ref m10, .int 0, .int 0, .ref m11, .ref m12, .ref m13, .int 0, .int 0, .ref m14, .int 0, .ref m15, .ref m16, .ref m17, .int 0, .int 0, .ref m18, .ref m19, .ref m20, .int 0, .ref m21]))] H := hP
  have hD : va_D A [(h0, .inr (7, [.int 0, .ref m1, .int 0, .int 0, .int 0, .int 0, .int (-1), .int 0, .int 0, .ref m2, .ref m3, .ref m4, .int 0, .ref m5, .ref m6, .ref m7, .int 0, .ref m8, .ref m9, .ref m10, .int 0, .int 0, .ref m11, .ref m12, .ref m13, .int 0, .int 0, .ref m14, .int 0, .ref m15, .ref m16, .ref m17, .int 0, .int 0, .ref m18, .ref m19, .ref m20, .int 0, .ref m21]))] := hD
  refine lv_aload_n hx hb dX7_begin_63 rfl (lv_at hl 0 rfl) ?_
  refine lv_iconst (v := 0) hx hb dX7_begin_64 (by decide) ?_
  refine va_put (D := (dC, dI)) (ci := 7) (v := .int 0) (ty := .int) (C := RX7) (T := TX7) (N := 39) hx hb hg i_X7 tyX7 tyX7_ok nmX7 hown hK hP hD hS 0 rfl rfl 26 (by decide) (hg _ k_238) (fun _ h9 => h9) rfl (by decide +kernel) rfl rfl (Nat.le_of_ble_eq_true rfl) dX7_begin_65 (fun H locs hP hD hS => ?_)
  have hP : va_P (dC, dI) vwCl [(h0, .inr (7, [.int 0, .ref m1, .int 0, .int 0, .int 0, .int 0, .int (-1), .int 0, .int 0, .ref m2, .ref m3, .ref m4, .int 0, .ref m5, .ref m6, .ref m7, .int 0, .ref m8, .ref m9, .ref m10, .int 0, .int 0, .ref m11, .ref m12, .ref m13, .int 0, .int 0, .ref m14, .int 0, .ref m15, .ref m16, .ref m17, .int 0, .int 0, .ref m18, .ref m19, .ref m20, .int 0, .ref m21]))] H := hP
  have hD : va_D A [(h0, .inr (7, [.int 0, .ref m1, .int 0, .int 0, .int 0, .int 0, .int (-1), .int 0, .int 0, .ref m2, .ref m3, .ref m4, .int 0, .ref m5, .ref m6, .ref m7, .int 0, .ref m8, .ref m9, .ref m10, .int 0, .int 0, .ref m11, .ref m12, .ref m13, .int 0, .int 0, .ref m14, .int 0, .ref m15, .ref m16, .ref m17, .int 0, .int 0, .ref m18, .ref m19, .ref m20, .int 0, .ref m21]))] := hD
  refine lv_aload_n hx hb dX7_begin_68 rfl (lv_at hl 0 rfl) ?_
  refine lv_iconst (v := 0) hx hb dX7_begin_69 (by decide) ?_
  refine va_put (D := (dC, dI)) (ci := 7) (v := .int 0) (ty := .int) (C := RX7) (T := TX7) (N := 39) hx hb hg i_X7 tyX7 tyX7_ok nmX7 hown hK hP hD hS 0 rfl rfl 28 (by decide) (hg _ k_239) (fun _ h9 => h9) rfl (by decide +kernel) rfl rfl (Nat.le_of_ble_eq_true rfl) dX7_begin_70 (fun H locs hP hD hS => ?_)
  have hP : va_P (dC, dI) vwCl [(h0, .inr (7, [.int 0, .ref m1, .int 0, .int 0, .int 0, .int 0, .int (-1), .int 0, .int 0, .ref m2, .ref m3, .ref m4, .int 0, .ref m5, .ref m6, .ref m7, .int 0, .ref m8, .ref m9, .ref m10, .int 0, .int 0, .ref m11, .ref m12, .ref m13, .int 0, .int 0, .ref m14, .int 0, .ref m15, .ref m16, .ref m17, .int 0, .int 0, .ref m18, .ref m19, .ref m20, .int 0, .ref m21]))] H := hP
  have hD : va_D A [(h0, .inr (7, [.int 0, .ref m1, .int 0, .int 0, .int 0, .int 0, .int (-1), .int 0, .int 0, .ref m2, .ref m3, .ref m4, .int 0, .ref m5, .ref m6, .ref m7, .int 0, .ref m8, .ref m9, .ref m10, .int 0, .int 0, .ref m11, .ref m12, .ref m13, .int 0, .int 0, .ref m14, .int 0, .ref m15, .ref m16, .ref m17, .int 0, .int 0, .ref m18, .ref m19, .ref m20, .int 0, .ref m21]))] := hD
  refine lv_aload_n hx hb dX7_begin_73 rfl (lv_at hl 0 rfl) ?_
  refine lv_iconst (v := 0) hx hb dX7_begin_74 (by decide) ?_
  refine va_put (D := (dC, dI)) (ci := 7) (v := .int 0) (ty := .boolean) (C := RX7) (T := TX7) (N := 39) hx hb hg i_X7 tyX7 tyX7_ok nmX7 hown hK hP hD hS 0 rfl rfl 33 (by decide) (hg _ k_240) (fun _ h9 => h9) rfl (by decide +kernel) rfl rfl (Nat.le_of_ble_eq_true rfl) dX7_begin_75 (fun H locs hP hD hS => ?_)
  have hP : va_P (dC, dI) vwCl [(h0, .inr (7, [.int 0, .ref m1, .int 0, .int 0, .int 0, .int 0, .int (-1), .int 0, .int 0, .ref m2, .ref m3, .ref m4, .int 0, .ref m5, .ref m6, .ref m7, .int 0, .ref m8, .ref m9, .ref m10, .int 0, .int 0, .ref m11, .ref m12, .ref m13, .int 0, .int 0, .ref m14, .int 0, .ref m15, .ref m16, .ref m17, .int 0, .int 0, .ref m18, .ref m19, .ref m20, .int 0, .ref m21]))] H := hP
  have hD : va_D A [(h0, .inr (7, [.int 0, .ref m1, .int 0, .int 0, .int 0, .int 0, .int (-1), .int 0, .int 0, .ref m2, .ref m3, .ref m4, .int 0, .ref m5, .ref m6, .ref m7, .int 0, .ref m8, .ref m9, .ref m10, .int 0, .int 0, .ref m11, .ref m12, .ref m13, .int 0, .int 0, .ref m14, .int 0, .ref m15, .ref m16, .ref m17, .int 0, .int 0, .ref m18, .ref m19, .ref m20, .int 0, .ref m21]))] := hD
  refine lv_aload_n hx hb dX7_begin_78 rfl (lv_at hl 0 rfl) ?_
  refine lv_iconst (v := 0) hx hb dX7_begin_79 (by decide) ?_
  refine va_put (D := (dC, dI)) (ci := 7) (v := .int 0) (ty := .int) (C := RX7) (T := TX7) (N := 39) hx hb hg i_X7 tyX7 tyX7_ok nmX7 hown hK hP hD hS 0 rfl rfl 37 (by decide) (hg _ k_241) (fun _ h9 => h9) rfl (by decide +kernel) rfl rfl (Nat.le_of_ble_eq_true rfl) dX7_begin_80 (fun H locs hP hD hS => ?_)
  have hP : va_P (dC, dI) vwCl [(h0, .inr (7, [.int 0, .ref m1, .int 0, .int 0, .int 0, .int 0, .int (-1), .int 0, .int 0, .ref m2, .ref m3, .ref m4, .int 0, .ref m5, .ref m6, .ref m7, .int 0, .ref m8, .ref m9, .ref m10, .int 0, .int 0, .ref m11, .ref m12, .ref m13, .int 0, .int 0, .ref m14, .int 0, .ref m15, .ref m16, .ref m17, .int 0, .int 0, .ref m18, .ref m19, .ref m20, .int 0, .ref m21]))] H := hP
  have hD : va_D A [(h0, .inr (7, [.int 0, .ref m1, .int 0, .int 0, .int 0, .int 0, .int (-1), .int 0, .int 0, .ref m2, .ref m3, .ref m4, .int 0, .ref m5, .ref m6, .ref m7, .int 0, .ref m8, .ref m9, .ref m10, .int 0, .int 0, .ref m11, .ref m12, .ref m13, .int 0, .int 0, .ref m14, .int 0, .ref m15, .ref m16, .ref m17, .int 0, .int 0, .ref m18, .ref m19, .ref m20, .int 0, .ref m21]))] := hD
  have hP9 := hP.sub (ws' := [(h0, .inr (7, [.int 0, .ref m1, .int 0, .int 0, .int 0, .int 0, .int (-1), .int 0, .int 0, .ref m2, .ref m3, .ref m4, .int 0, .ref m5, .ref m6, .ref m7, .int 0, .ref m8, .ref m9, .ref m10, .int 0, .int 0, .ref m11, .ref m12, .ref m13, .int 0, .int 0, .ref m14, .int 0, .ref m15, .ref m16, .ref m17, .int 0, .int 0, .ref m18, .ref m19, .ref m20, .int 0, .ref m21]))]) [0] rfl
  have hD9 := hD.sub (ws' := [(h0, .inr (7, [.int 0, .ref m1, .int 0, .int 0, .int 0, .int 0, .int (-1), .int 0, .int 0, .ref m2, .ref m3, .ref m4, .int 0, .ref m5, .ref m6, .ref m7, .int 0, .ref m8, .ref m9, .ref m10, .int 0, .int 0, .ref m11, .ref m12, .ref m13, .int 0, .int 0, .ref m14, .int 0, .ref m15, .ref m16, .ref m17, .int 0, .int 0, .ref m18, .ref m19, .ref m20, .int 0, .ref m21]))]) [0] (by decide) rfl
  refine W.widen (k := 0) (n := 0) (Nat.le_of_ble_eq_true rfl) (Nat.le_of_ble_eq_true rfl) ?_
  exact W.vret hx hb hr (fun t ht hW => ⟨⟨(), rfl, trivial, by rw [ht]; exact hP9, hD9⟩, hS.F ht⟩) hS.2.2 dX7_begin_83

set_option maxHeartbeats 4000000 in
set_option maxRecDepth 100000 in
/-- readTerm() of an empty text -/
theorem c_X7_readTerm (l : Launch) (dC : Nat → ClassId) (dI : Nat → Nat → Nat) (cI cZ cL : ClassId) (h0 m8 m9 m10 m18 : Nat) (sz : Nat) (m1 m2 m3 m4 m5 m6 m7 m11 m12 m13 m14 m15 m16 m17 m19 m20 m21 : Nat) : Met l yX7_readTerm (wd yX7_readTerm cX7_readTerm 9 (some .int)) ({ frames := 1, cells := 0, slots := 0, locals := 23 }) (va_Pc [.ref h0] (hp dC dI cI cZ cL sz [(h0, .inr (7, [.int 0, .ref m1, .int 0, .int 0, .int 0, .int 0, .int (-1), .int 0, .int 0, .ref m2, .ref m3, .ref m4, .int 0, .ref m5, .ref m6, .ref m7, .int 0, .ref m8, .ref m9, .ref m10, .int 0, .int 0, .ref m11, .ref m12, .ref m13, .int 0, .int 0, .ref m14, .int 0, .ref m15, .ref m16, .ref m17, .int 0, .int 0, .ref m18, .ref m19, .ref m20, .int 0, .ref m21])), (m8, .inl (cI, 130, .inl zI)), (m9, .inl (cI, 130, .inl zI)), (m10, .inl (cI, 130, .inl zI)), (m18, .inl (cI, 8000, .inl zI))])) (va_Qi (fun (r : Int32) (_ : Unit) => r = -1) (fun (_ : Unit) t => va_P (dC, dI) vwCl [(h0, .inr (7, [.int 0, .ref m1, .int 0, .int 0, .int 0, .int 1, .int 0, .int 0, .int 0, .ref m2, .ref m3, .ref m4, .int 0, .ref m5, .ref m6, .ref m7, .int 0, .ref m8, .ref m9, .ref m10, .int 1, .int 0, .ref m11, .ref m12, .ref m13, .int 0, .int 0, .ref m14, .int 0, .ref m15, .ref m16, .ref m17, .int 0, .int 0, .ref m18, .ref m19, .ref m20, .int 0, .ref m21]))] t.heap ∧ va_D (va_A [(h0, .inr (7, [.int 0, .ref m1, .int 0, .int 0, .int 0, .int 0, .int (-1), .int 0, .int 0, .ref m2, .ref m3, .ref m4, .int 0, .ref m5, .ref m6, .ref m7, .int 0, .ref m8, .ref m9, .ref m10, .int 0, .int 0, .ref m11, .ref m12, .ref m13, .int 0, .int 0, .ref m14, .int 0, .ref m15, .ref m16, .ref m17, .int 0, .int 0, .ref m18, .ref m19, .ref m20, .int 0, .ref m21])), (m8, .inl (cI, 130, .inl zI)), (m9, .inl (cI, 130, .inl zI)), (m10, .inl (cI, 130, .inl zI)), (m18, .inl (cI, 8000, .inl zI))] sz) [(h0, .inr (7, [.int 0, .ref m1, .int 0, .int 0, .int 0, .int 1, .int 0, .int 0, .int 0, .ref m2, .ref m3, .ref m4, .int 0, .ref m5, .ref m6, .ref m7, .int 0, .ref m8, .ref m9, .ref m10, .int 1, .int 0, .ref m11, .ref m12, .ref m13, .int 0, .int 0, .ref m14, .int 0, .ref m15, .ref m16, .ref m17, .int 0, .int 0, .ref m18, .ref m19, .ref m20, .int 0, .ref m21]))]) (va_A [(h0, .inr (7, [.int 0, .ref m1, .int 0, .int 0, .int 0, .int 0, .int (-1), .int 0, .int 0, .ref m2, .ref m3, .ref m4, .int 0, .ref m5, .ref m6, .ref m7, .int 0, .ref m8, .ref m9, .ref m10, .int 0, .int 0, .ref m11, .ref m12, .ref m13, .int 0, .int 0, .ref m14, .int 0, .ref m15, .ref m16, .ref m17, .int 0, .int 0, .ref m18, .ref m19, .ref m20, .int 0, .ref m21])), (m8, .inl (cI, 130, .inl zI)), (m9, .inl (cI, 130, .inl zI)), (m10, .inl (cI, 130, .inl zI)), (m18, .inl (cI, 8000, .inl zI))] sz)) 0 0 (va_A [(h0, .inr (7, [.int 0, .ref m1, .int 0, .int 0, .int 0, .int 0, .int (-1), .int 0, .int 0, .ref m2, .ref m3, .ref m4, .int 0, .ref m5, .ref m6, .ref m7, .int 0, .ref m8, .ref m9, .ref m10, .int 0, .int 0, .ref m11, .ref m12, .ref m13, .int 0, .int 0, .ref m14, .int 0, .ref m15, .ref m16, .ref m17, .int 0, .int 0, .ref m18, .ref m19, .ref m20, .int 0, .ref m21])), (m8, .inl (cI, 130, .inl zI)), (m9, .inl (cI, 130, .inl zI)), (m10, .inl (cI, 130, .inl zI)), (m18, .inl (cI, 8000, .inl zI))] sz) := by
  refine Met.ofW (cc := cX7_readTerm) (maxL := 9) (ret := (some .int)) (by decide) rfl ?_
  intro p e s m args below meth c s₁ B hml hv
  obtain ⟨rfl, hsz, hP, hK, hD0⟩ := hv
  have hx := B.exec
  have hb := B.bytes
  have hr := B.returns
  have hw9 := atoms_spec (ws := (wd yX7_readTerm cX7_readTerm 9 (some .int))) B.pre
  have hg := gw_hts hw9
  have hown : s.vm.findClass RX7 = some m.cls := findClass_of_methodNamed B.named
  have hlocks := B.notSynchronized
  subst hsz
  have hD := hD0.self (sz := s.heap.size)
  generalize hAe : va_A [(h0, .inr (7, [.int 0, .ref m1, .int 0, .int 0, .int 0, .int 0, .int (-1), .int 0, .int 0, .ref m2, .ref m3, .ref m4, .int 0, .ref m5, .ref m6, .ref m7, .int 0, .ref m8, .ref m9, .ref m10, .int 0, .int 0, .ref m11, .ref m12, .ref m13, .int 0, .int 0, .ref m14, .int 0, .ref m15, .ref m16, .ref m17, .int 0, .int 0, .ref m18, .ref m19, .ref m20, .int 0, .ref m21])), (m8, .inl (cI, 130, .inl zI)), (m9, .inl (cI, 130, .inl zI)), (m10, .inl (cI, 130, .inl zI)), (m18, .inl (cI, 8000, .inl zI))] s.heap.size = A at hD ⊢
  have hA : ∀ q : Nat, s.heap.size ≤ q → A q := fun q h => by rw [← hAe]; exact Or.inr h
  have hS : va_S A s.heap s.heap [] := va_S.rf
  have hl := lv_entry ([.ref h0]) (n := 9) (Nat.le_of_ble_eq_true rfl)
  rw [lg_entry_eq]
  generalize (lg_sl ([.ref h0]) ++ List.replicate (9 - (lg_sl ([.ref h0])).length) Slot.unset).toArray = ls at hl ⊢
  have hl : lv_has ls 9 [(0, .ref h0)] := hl
  refine lv_aload_n hx hb dX7_readTerm_0 rfl (lv_at hl 0 rfl) ?_
  refine va_get (D := (dC, dI)) (ci := 7) (v := .ref m18) (C := RX7) (T := TX7) (N := 39) hx hb hg i_X7 hown hK hP 0 rfl rfl 34 (by decide) (hg _ k_117) (fun _ h9 => h9) rfl dX7_readTerm_1 ?_
  refine lv_astore_n (lv' := [(1, .ref m18), (0, .ref h0)]) hx hb dX7_readTerm_4 rfl hl (by decide) rfl (fun ls hl => ?_)
  refine lv_aload_n hx hb dX7_readTerm_5 rfl (lv_at hl 1 rfl) ?_
  refine lv_iconst (v := 0) hx hb dX7_readTerm_6 (by decide) ?_
  refine lv_iconst (v := 0) hx hb dX7_readTerm_7 (by decide) ?_
  refine lv_iconst (v := 0) hx hb dX7_readTerm_8 (by decide) ?_
  have hPc := hP.sub (ws' := [(h0, .inr (7, [.int 0, .ref m1, .int 0, .int 0, .int 0, .int 0, .int (-1), .int 0, .int 0, .ref m2, .ref m3, .ref m4, .int 0, .ref m5, .ref m6, .ref m7, .int 0, .ref m8, .ref m9, .ref m10, .int 0, .int 0, .ref m11, .ref m12, .ref m13, .int 0, .int 0, .ref m14, .int 0, .ref m15, .ref m16, .ref m17, .int 0, .int 0, .ref m18, .ref m19, .ref m20, .int 0, .ref m21])), (m8, .inl (cI, 130, .inl zI)), (m9, .inl (cI, 130, .inl zI)), (m10, .inl (cI, 130, .inl zI))]) [0, 1, 2, 3] rfl
  have hDc := hD.sub (ws' := [(h0, .inr (7, [.int 0, .ref m1, .int 0, .int 0, .int 0, .int 0, .int (-1), .int 0, .int 0, .ref m2, .ref m3, .ref m4, .int 0, .ref m5, .ref m6, .ref m7, .int 0, .ref m8, .ref m9, .ref m10, .int 0, .int 0, .ref m11, .ref m12, .ref m13, .int 0, .int 0, .ref m14, .int 0, .ref m15, .ref m16, .ref m17, .int 0, .int 0, .ref m18, .ref m19, .ref m20, .int 0, .ref m21])), (m8, .inl (cI, 130, .inl zI)), (m9, .inl (cI, 130, .inl zI)), (m10, .inl (cI, 130, .inl zI))]) [0, 1, 2, 3] (by decide) rfl
  have hFc := va_free (wc := [(h0, .inr (7, [.int 0, .ref m1, .int 0, .int 0, .int 0, .int 0, .int (-1), .int 0, .int 0, .ref m2, .ref m3, .ref m4, .int 0, .ref m5, .ref m6, .ref m7, .int 0, .ref m8, .ref m9, .ref m10, .int 0, .int 0, .ref m11, .ref m12, .ref m13, .int 0, .int 0, .ref m14, .int 0, .ref m15, .ref m16, .ref m17, .int 0, .int 0, .ref m18, .ref m19, .ref m20, .int 0, .ref m21])), (m8, .inl (cI, 130, .inl zI)), (m9, .inl (cI, 130, .inl zI)), (m10, .inl (cI, 130, .inl zI))]) hD hS hA [0, 1, 2, 3] rfl
  refine va_callv (va_runV (As := [.int 0, .int 0, .int 0]) (rest := []) ⟨hx, hb, hml, hown, hg⟩ (c_X7_open l dC dI cI cZ cL h0 m8 m9 m10 (Array.size _) m1 m2 m3 m4 m5 m6 m7 m11 m12 m13 m14 m15 m16 m17 m18 m19 m20 m21) (cwV 3 hg (gw_V k_242 k_243 k_244 k_245 g_yX7_open) rfl rfl rfl (by decide +kernel) ⟨(Nat.le_of_ble_eq_true rfl), (Nat.le_of_ble_eq_true rfl)⟩) ⟨hp_bl, va_recv hK hPc (ci := 7) (q0 := 0) rfl rfl, fun U hU hW => hp_ok hU hW hPc hK hDc⟩ rfl rfl hl.1 rfl (lv_room (Nat.le_of_ble_eq_true rfl)) dX7_readTerm_9 ⟨(Nat.le_of_ble_eq_true rfl), (Nat.le_of_ble_eq_true rfl)⟩) hS (fun q _ h => hFc q h) hFc (fun u t H locs ht hvm hw hB hz1 hk1 hS => ?_)
  obtain ⟨hP1, hD1⟩ := hB
  rw [ht] at hP1
  obtain ⟨hP, hD⟩ := va_join (wr := [(m18, .inl (cI, 8000, .inl zI))]) (w1 := [(h0, .inr (7, [.int 0, .ref m1, .int 0, .int 0, .int 0, .int 0, .int (-1), .int 0, .int 0, .ref m2, .ref m3, .ref m4, .int 0, .ref m5, .ref m6, .ref m7, .int 0, .ref m8, .ref m9, .ref m10, .int 1, .int 0, .ref m11, .ref m12, .ref m13, .int 0, .int 0, .ref m14, .int 0, .ref m15, .ref m16, .ref m17, .int 0, .int 0, .ref m18, .ref m19, .ref m20, .int 0, .ref m21]))]) hP hD [0, 1, 2, 3] [4] rfl rfl (by decide) (by decide) hk1 hFc hP1 hD1
  have hP : va_P (dC, dI) vwCl [(m18, .inl (cI, 8000, .inl zI)), (h0, .inr (7, [.int 0, .ref m1, .int 0, .int 0, .int 0, .int 0, .int (-1), .int 0, .int 0, .ref m2, .ref m3, .ref m4, .int 0, .ref m5, .ref m6, .ref m7, .int 0, .ref m8, .ref m9, .ref m10, .int 1, .int 0, .ref m11, .ref m12, .ref m13, .int 0, .int 0, .ref m14, .int 0, .ref m15, .ref m16, .ref m17, .int 0, .int 0, .ref m18, .ref m19, .ref m20, .int 0, .ref m21]))] H := hP
  have hD : va_D A [(m18, .inl (cI, 8000, .inl zI)), (h0, .inr (7, [.int 0, .ref m1, .int 0, .int 0, .int 0, .int 0, .int (-1), .int 0, .int 0, .ref m2, .ref m3, .ref m4, .int 0, .ref m5, .ref m6, .ref m7, .int 0, .ref m8, .ref m9, .ref m10, .int 1, .int 0, .ref m11, .ref m12, .ref m13, .int 0, .int 0, .ref m14, .int 0, .ref m15, .ref m16, .ref m17, .int 0, .int 0, .ref m18, .ref m19, .ref m20, .int 0, .ref m21]))] := hD
  refine W.widen (k := 0) (n := 0) (Nat.le_of_ble_eq_true rfl) (Nat.le_of_ble_eq_true rfl) ?_
  refine lv_aload_n hx hb dX7_readTerm_12 rfl (lv_at hl 0 rfl) ?_
  refine lv_iconst (v := 0) hx hb dX7_readTerm_13 (by decide) ?_
  refine lv_iconst (v := (-1)) hx hb dX7_readTerm_14 (by decide) ?_
  refine va_iast hx hb hK hP hD hS 0 0 rfl rfl (vp_lit (by decide) (by decide)) dX7_readTerm_15 (fun H locs hP hD hS => ?_)
  generalize upd zI (Int32.toNatClampNeg 0) ((-1) : Int32) = f1 at hP hD
  have hP : va_P (dC, dI) vwCl [(m18, .inl (cI, 8000, .inl f1)), (h0, .inr (7, [.int 0, .ref m1, .int 0, .int 0, .int 0, .int 0, .int (-1), .int 0, .int 0, .ref m2, .ref m3, .ref m4, .int 0, .ref m5, .ref m6, .ref m7, .int 0, .ref m8, .ref m9, .ref m10, .int 1, .int 0, .ref m11, .ref m12, .ref m13, .int 0, .int 0, .ref m14, .int 0, .ref m15, .ref m16, .ref m17, .int 0, .int 0, .ref m18, .ref m19, .ref m20, .int 0, .ref m21]))] H := hP
  have hD : va_D A [(m18, .inl (cI, 8000, .inl f1)), (h0, .inr (7, [.int 0, .ref m1, .int 0, .int 0, .int 0, .int 0, .int (-1), .int 0, .int 0, .ref m2, .ref m3, .ref m4, .int 0, .ref m5, .ref m6, .ref m7, .int 0, .ref m8, .ref m9, .ref m10, .int 1, .int 0, .ref m11, .ref m12, .ref m13, .int 0, .int 0, .ref m14, .int 0, .ref m15, .ref m16, .ref m17, .int 0, .int 0, .ref m18, .ref m19, .ref m20, .int 0, .ref m21]))] := hD
  refine lv_aload_n hx hb dX7_readTerm_16 rfl (lv_at hl 1 rfl) ?_
  refine va_get (D := (dC, dI)) (ci := 7) (v := .int 0) (C := RX7) (T := TX7) (N := 39) hx hb hg i_X7 hown hK hP 1 rfl rfl 5 (by decide) (hg _ k_229) (fun _ h9 => h9) rfl dX7_readTerm_17 ?_
  refine lv_if_ne (tgt := 485) hx hb dX7_readTerm_20 (by decide) (fun c9 => absurd c9 (by decide)) (fun _ => ?_)
  refine lv_aload_n hx hb dX7_readTerm_23 rfl (lv_at hl 1 rfl) ?_
  have hPc := hP.sub (ws' := [(h0, .inr (7, [.int 0, .ref m1, .int 0, .int 0, .int 0, .int 0, .int (-1), .int 0, .int 0, .ref m2, .ref m3, .ref m4, .int 0, .ref m5, .ref m6, .ref m7, .int 0, .ref m8, .ref m9, .ref m10, .int 1, .int 0, .ref m11, .ref m12, .ref m13, .int 0, .int 0, .ref m14, .int 0, .ref m15, .ref m16, .ref m17, .int 0, .int 0, .ref m18, .ref m19, .ref m20, .int 0, .ref m21]))]) [1] rfl
  have hDc := hD.sub (ws' := [(h0, .inr (7, [.int 0, .ref m1, .int 0, .int 0, .int 0, .int 0, .int (-1), .int 0, .int 0, .ref m2, .ref m3, .ref m4, .int 0, .ref m5, .ref m6, .ref m7, .int 0, .ref m8, .ref m9, .ref m10, .int 1, .int 0, .ref m11, .ref m12, .ref m13, .int 0, .int 0, .ref m14, .int 0, .ref m15, .ref m16, .ref m17, .int 0, .int 0, .ref m18, .ref m19, .ref m20, .int 0, .ref m21]))]) [1] (by decide) rfl
  have hFc := va_free (wc := [(h0, .inr (7, [.int 0, .ref m1, .int 0, .int 0, .int 0, .int 0, .int (-1), .int 0, .int 0, .ref m2, .ref m3, .ref m4, .int 0, .ref m5, .ref m6, .ref m7, .int 0, .ref m8, .ref m9, .ref m10, .int 1, .int 0, .ref m11, .ref m12, .ref m13, .int 0, .int 0, .ref m14, .int 0, .ref m15, .ref m16, .ref m17, .int 0, .int 0, .ref m18, .ref m19, .ref m20, .int 0, .ref m21]))]) hD hS hA [1] rfl
  refine va_calli (va_runV (As := []) (rest := []) ⟨hx, hb, hml, hown, hg⟩ (c_X7_see l dC dI cI cZ cL h0 (Array.size _) m1 m2 m3 m4 m5 m6 m7 m8 m9 m10 m11 m12 m13 m14 m15 m16 m17 m18 m19 m20 m21) (cwV 0 hg (gw_V k_246 k_247 k_248 k_245 g_yX7_see) rfl rfl rfl (by decide +kernel) ⟨(Nat.le_of_ble_eq_true rfl), (Nat.le_of_ble_eq_true rfl)⟩) ⟨hp_bl, va_recv hK hPc (ci := 7) (q0 := 0) rfl rfl, fun U hU hW => hp_ok hU hW hPc hK hDc⟩ rfl rfl hl.1 rfl (lv_room (Nat.le_of_ble_eq_true rfl)) dX7_readTerm_24 ⟨(Nat.le_of_ble_eq_true rfl), (Nat.le_of_ble_eq_true rfl)⟩) hS (fun q _ h => hFc q h) hFc (fun r9 u t H locs ht hvm hw hB hz1 hk1 hS => ?_)
  obtain ⟨hP1, hD1⟩ := hB
  rw [ht] at hP1
  obtain ⟨hP, hD⟩ := va_join (wr := [(m18, .inl (cI, 8000, .inl f1))]) (w1 := [(h0, .inr (7, [.int 0, .ref m1, .int 0, .int 0, .int 0, .int 0, .int (-1), .int 0, .int 0, .ref m2, .ref m3, .ref m4, .int 0, .ref m5, .ref m6, .ref m7, .int 0, .ref m8, .ref m9, .ref m10, .int 1, .int 0, .ref m11, .ref m12, .ref m13, .int 0, .int 0, .ref m14, .int 0, .ref m15, .ref m16, .ref m17, .int 0, .int 0, .ref m18, .ref m19, .ref m20, .int 0, .ref m21]))]) hP hD [1] [0] rfl rfl (by decide) (by decide) hk1 hFc hP1 hD1
  have hP : va_P (dC, dI) vwCl [(m18, .inl (cI, 8000, .inl f1)), (h0, .inr (7, [.int 0, .ref m1, .int 0, .int 0, .int 0, .int 0, .int (-1), .int 0, .int 0, .ref m2, .ref m3, .ref m4, .int 0, .ref m5, .ref m6, .ref m7, .int 0, .ref m8, .ref m9, .ref m10, .int 1, .int 0, .ref m11, .ref m12, .ref m13, .int 0, .int 0, .ref m14, .int 0, .ref m15, .ref m16, .ref m17, .int 0, .int 0, .ref m18, .ref m19, .ref m20, .int 0, .ref m21]))] H := hP
  have hD : va_D A [(m18, .inl (cI, 8000, .inl f1)), (h0, .inr (7, [.int 0, .ref m1, .int 0, .int 0, .int 0, .int 0, .int (-1), .int 0, .int 0, .ref m2, .ref m3, .ref m4, .int 0, .ref m5, .ref m6, .ref m7, .int 0, .ref m8, .ref m9, .ref m10, .int 1, .int 0, .ref m11, .ref m12, .ref m13, .int 0, .int 0, .ref m14, .int 0, .ref m15, .ref m16, .ref m17, .int 0, .int 0, .ref m18, .ref m19, .ref m20, .int 0, .ref m21]))] := hD
  refine W.widen (k := 0) (n := 0) (Nat.le_of_ble_eq_true rfl) (Nat.le_of_ble_eq_true rfl) ?_
  obtain rfl : r9 = (-1) := hw
  refine lv_istore_n (lv' := [(3, .int (-1)), (1, .ref m18), (0, .ref h0)]) hx hb dX7_readTerm_27 rfl hl (by decide) rfl (fun ls hl => ?_)
  refine lv_iconst (v := (-1)) hx hb dX7_readTerm_28 (by decide) ?_
  refine lv_istore_n (lv' := [(2, .int (-1)), (3, .int (-1)), (1, .ref m18), (0, .ref h0)]) hx hb dX7_readTerm_29 rfl hl (by decide) rfl (fun ls hl => ?_)
  refine lv_iload_n hx hb dX7_readTerm_30 rfl (lv_at hl 1 rfl) ?_
  refine lv_bipush (v := 49) hx hb dX7_readTerm_31 (by decide) ?_
  refine lv_icmp_ne (tgt := 57) hx hb dX7_readTerm_33 (by decide) (fun _ => ?_) (fun c9 => absurd c9 (by decide))
  refine lv_iload_n hx hb dX7_readTerm_57 rfl (lv_at hl 1 rfl) ?_
  have hPc := hP.sub (ws' := []) [] rfl
  have hDc := hD.sub (ws' := []) [] (by decide) rfl
  have hFc := va_free (wc := []) hD hS hA [] rfl
  refine va_calli (va_runS (As := [.int (-1)]) (rest := []) ⟨hx, hb, hml, hown, hg⟩ (c_X7_isLetter l dC dI cI cZ cL  (Array.size _)) (va_cwS 1 hg (gw_S k_249 k_250 k_245 g_yX7_isLetter) rfl rfl rfl (by decide +kernel) ⟨(Nat.le_of_ble_eq_true rfl), (Nat.le_of_ble_eq_true rfl)⟩) ⟨hp_bl, fun U hU hW => hp_ok hU hW hPc hK hDc⟩ rfl rfl hl.1 rfl (lv_room (Nat.le_of_ble_eq_true rfl)) dX7_readTerm_58 ⟨(Nat.le_of_ble_eq_true rfl), (Nat.le_of_ble_eq_true rfl)⟩) hS (fun q _ h => hFc q h) hFc (fun r9 u t H locs ht hvm hw hB hz1 hk1 hS => ?_)
  obtain ⟨hP1, hD1⟩ := hB
  rw [ht] at hP1
  obtain ⟨hP, hD⟩ := va_join (wr := [(m18, .inl (cI, 8000, .inl f1)), (h0, .inr (7, [.int 0, .ref m1, .int 0, .int 0, .int 0, .int 0, .int (-1), .int 0, .int 0, .ref m2, .ref m3, .ref m4, .int 0, .ref m5, .ref m6, .ref m7, .int 0, .ref m8, .ref m9, .ref m10, .int 1, .int 0, .ref m11, .ref m12, .ref m13, .int 0, .int 0, .ref m14, .int 0, .ref m15, .ref m16, .ref m17, .int 0, .int 0, .ref m18, .ref m19, .ref m20, .int 0, .ref m21]))]) (w1 := []) hP hD [] [0, 1] rfl rfl (by decide) (by decide) hk1 hFc hP1 hD1
  have hP : va_P (dC, dI) vwCl [(m18, .inl (cI, 8000, .inl f1)), (h0, .inr (7, [.int 0, .ref m1, .int 0, .int 0, .int 0, .int 0, .int (-1), .int 0, .int 0, .ref m2, .ref m3, .ref m4, .int 0, .ref m5, .ref m6, .ref m7, .int 0, .ref m8, .ref m9, .ref m10, .int 1, .int 0, .ref m11, .ref m12, .ref m13, .int 0, .int 0, .ref m14, .int 0, .ref m15, .ref m16, .ref m17, .int 0, .int 0, .ref m18, .ref m19, .ref m20, .int 0, .ref m21]))] H := hP
  have hD : va_D A [(m18, .inl (cI, 8000, .inl f1)), (h0, .inr (7, [.int 0, .ref m1, .int 0, .int 0, .int 0, .int 0, .int (-1), .int 0, .int 0, .ref m2, .ref m3, .ref m4, .int 0, .ref m5, .ref m6, .ref m7, .int 0, .ref m8, .ref m9, .ref m10, .int 1, .int 0, .ref m11, .ref m12, .ref m13, .int 0, .int 0, .ref m14, .int 0, .ref m15, .ref m16, .ref m17, .int 0, .int 0, .ref m18, .ref m19, .ref m20, .int 0, .ref m21]))] := hD
  refine W.widen (k := 0) (n := 0) (Nat.le_of_ble_eq_true rfl) (Nat.le_of_ble_eq_true rfl) ?_
  obtain rfl : r9 = 0 := hw
  refine lv_if_eq (tgt := 103) hx hb dX7_readTerm_61 (by decide) (fun _ => ?_) (fun c9 => absurd (by decide) c9)
  refine lv_iload_n hx hb dX7_readTerm_103 rfl (lv_at hl 1 rfl) ?_
  refine lv_bipush (v := 92) hx hb dX7_readTerm_104 (by decide) ?_
  refine lv_icmp_ne (tgt := 133) hx hb dX7_readTerm_106 (by decide) (fun _ => ?_) (fun c9 => absurd c9 (by decide))
  refine lv_iload_n hx hb dX7_readTerm_133 rfl (lv_at hl 1 rfl) ?_
  refine lv_bipush (v := 40) hx hb dX7_readTerm_134 (by decide) ?_
  refine lv_icmp_ne (tgt := 165) hx hb dX7_readTerm_136 (by decide) (fun _ => ?_) (fun c9 => absurd c9 (by decide))
  refine lv_aload_n hx hb dX7_readTerm_165 rfl (lv_at hl 3 rfl) ?_
  have hPc := hP.sub (ws' := [(h0, .inr (7, [.int 0, .ref m1, .int 0, .int 0, .int 0, .int 0, .int (-1), .int 0, .int 0, .ref m2, .ref m3, .ref m4, .int 0, .ref m5, .ref m6, .ref m7, .int 0, .ref m8, .ref m9, .ref m10, .int 1, .int 0, .ref m11, .ref m12, .ref m13, .int 0, .int 0, .ref m14, .int 0, .ref m15, .ref m16, .ref m17, .int 0, .int 0, .ref m18, .ref m19, .ref m20, .int 0, .ref m21]))]) [1] rfl
  have hDc := hD.sub (ws' := [(h0, .inr (7, [.int 0, .ref m1, .int 0, .int 0, .int 0, .int 0, .int (-1), .int 0, .int 0, .ref m2, .ref m3, .ref m4, .int 0, .ref m5, .ref m6, .ref m7, .int 0, .ref m8, .ref m9, .ref m10, .int 1, .int 0, .ref m11, .ref m12, .ref m13, .int 0, .int 0, .ref m14, .int 0, .ref m15, .ref m16, .ref m17, .int 0, .int 0, .ref m18, .ref m19, .ref m20, .int 0, .ref m21]))]) [1] (by decide) rfl
  have hFc := va_free (wc := [(h0, .inr (7, [.int 0, .ref m1, .int 0, .int 0, .int 0, .int 0, .int (-1), .int 0, .int 0, .ref m2, .ref m3, .ref m4, .int 0, .ref m5, .ref m6, .ref m7, .int 0, .ref m8, .ref m9, .ref m10, .int 1, .int 0, .ref m11, .ref m12, .ref m13, .int 0, .int 0, .ref m14, .int 0, .ref m15, .ref m16, .ref m17, .int 0, .int 0, .ref m18, .ref m19, .ref m20, .int 0, .ref m21]))]) hD hS hA [1] rfl
  refine va_callv (va_runV (As := []) (rest := []) ⟨hx, hb, hml, hown, hg⟩ (c_X7_fail l dC dI cI cZ cL h0 (Array.size _) m1 m2 m3 m4 m5 m6 m7 m8 m9 m10 m11 m12 m13 m14 m15 m16 m17 m18 m19 m20 m21) (cwV 0 hg (gw_V k_251 k_252 k_253 k_245 g_yX7_fail) rfl rfl rfl (by decide +kernel) ⟨(Nat.le_of_ble_eq_true rfl), (Nat.le_of_ble_eq_true rfl)⟩) ⟨hp_bl, va_recv hK hPc (ci := 7) (q0 := 0) rfl rfl, fun U hU hW => hp_ok hU hW hPc hK hDc⟩ rfl rfl hl.1 rfl (lv_room (Nat.le_of_ble_eq_true rfl)) dX7_readTerm_166 ⟨(Nat.le_of_ble_eq_true rfl), (Nat.le_of_ble_eq_true rfl)⟩) hS (fun q _ h => hFc q h) hFc (fun u t H locs ht hvm hw hB hz1 hk1 hS => ?_)
  obtain ⟨hP1, hD1⟩ := hB
  rw [ht] at hP1
  obtain ⟨hP, hD⟩ := va_join (wr := [(m18, .inl (cI, 8000, .inl f1))]) (w1 := [(h0, .inr (7, [.int 0, .ref m1, .int 0, .int 0, .int 0, .int 1, .int 0, .int 0, .int 0, .ref m2, .ref m3, .ref m4, .int 0, .ref m5, .ref m6, .ref m7, .int 0, .ref m8, .ref m9, .ref m10, .int 1, .int 0, .ref m11, .ref m12, .ref m13, .int 0, .int 0, .ref m14, .int 0, .ref m15, .ref m16, .ref m17, .int 0, .int 0, .ref m18, .ref m19, .ref m20, .int 0, .ref m21]))]) hP hD [1] [0] rfl rfl (by decide) (by decide) hk1 hFc hP1 hD1
  have hP : va_P (dC, dI) vwCl [(m18, .inl (cI, 8000, .inl f1)), (h0, .inr (7, [.int 0, .ref m1, .int 0, .int 0, .int 0, .int 1, .int 0, .int 0, .int 0, .ref m2, .ref m3, .ref m4, .int 0, .ref m5, .ref m6, .ref m7, .int 0, .ref m8, .ref m9, .ref m10, .int 1, .int 0, .ref m11, .ref m12, .ref m13, .int 0, .int 0, .ref m14, .int 0, .ref m15, .ref m16, .ref m17, .int 0, .int 0, .ref m18, .ref m19, .ref m20, .int 0, .ref m21]))] H := hP
  have hD : va_D A [(m18, .inl (cI, 8000, .inl f1)), (h0, .inr (7, [.int 0, .ref m1, .int 0, .int 0, .int 0, .int 1, .int 0, .int 0, .int 0, .ref m2, .ref m3, .ref m4, .int 0, .ref m5, .ref m6, .ref m7, .int 0, .ref m8, .ref m9, .ref m10, .int 1, .int 0, .ref m11, .ref m12, .ref m13, .int 0, .int 0, .ref m14, .int 0, .ref m15, .ref m16, .ref m17, .int 0, .int 0, .ref m18, .ref m19, .ref m20, .int 0, .ref m21]))] := hD
  refine W.widen (k := 0) (n := 0) (Nat.le_of_ble_eq_true rfl) (Nat.le_of_ble_eq_true rfl) ?_
  refine lv_aload_n hx hb dX7_readTerm_169 rfl (lv_at hl 3 rfl) ?_
  refine va_get (D := (dC, dI)) (ci := 7) (v := .int 1) (C := RX7) (T := TX7) (N := 39) hx hb hg i_X7 hown hK hP 1 rfl rfl 5 (by decide) (hg _ k_229) (fun _ h9 => h9) rfl dX7_readTerm_170 ?_
  refine lv_if_ne (tgt := 482) hx hb dX7_readTerm_173 (by decide) (fun _ => ?_) (fun c9 => absurd c9 (by decide))
  refine lv_goto (tgt := 16) hx hb dX7_readTerm_482 (by decide) ?_
  refine lv_aload_n hx hb dX7_readTerm_16 rfl (lv_at hl 3 rfl) ?_
  refine va_get (D := (dC, dI)) (ci := 7) (v := .int 1) (C := RX7) (T := TX7) (N := 39) hx hb hg i_X7 hown hK hP 1 rfl rfl 5 (by decide) (hg _ k_229) (fun _ h9 => h9) rfl dX7_readTerm_17 ?_
  refine lv_if_ne (tgt := 485) hx hb dX7_readTerm_20 (by decide) (fun _ => ?_) (fun c9 => absurd c9 (by decide))
  refine lv_iconst (v := (-1)) hx hb dX7_readTerm_485 (by decide) ?_
  have hP9 := hP.sub (ws' := [(h0, .inr (7, [.int 0, .ref m1, .int 0, .int 0, .int 0, .int 1, .int 0, .int 0, .int 0, .ref m2, .ref m3, .ref m4, .int 0, .ref m5, .ref m6, .ref m7, .int 0, .ref m8, .ref m9, .ref m10, .int 1, .int 0, .ref m11, .ref m12, .ref m13, .int 0, .int 0, .ref m14, .int 0, .ref m15, .ref m16, .ref m17, .int 0, .int 0, .ref m18, .ref m19, .ref m20, .int 0, .ref m21]))]) [1] rfl
  have hD9 := hD.sub (ws' := [(h0, .inr (7, [.int 0, .ref m1, .int 0, .int 0, .int 0, .int 1, .int 0, .int 0, .int 0, .ref m2, .ref m3, .ref m4, .int 0, .ref m5, .ref m6, .ref m7, .int 0, .ref m8, .ref m9, .ref m10, .int 1, .int 0, .ref m11, .ref m12, .ref m13, .int 0, .int 0, .ref m14, .int 0, .ref m15, .ref m16, .ref m17, .int 0, .int 0, .ref m18, .ref m19, .ref m20, .int 0, .ref m21]))]) [1] (by decide) rfl
  refine W.widen (k := 0) (n := 0) (Nat.le_of_ble_eq_true rfl) (Nat.le_of_ble_eq_true rfl) ?_
  exact W.iret (v := (-1)) hx hb hr (fun t ht hW => ⟨⟨(-1), (), rfl, rfl, by rw [ht]; exact hP9, hD9⟩, hS.F ht⟩) hS.2.2 dX7_readTerm_486

set_option maxHeartbeats 4000000 in
set_option maxRecDepth 100000 in
/-- readType() of an empty text -/
theorem c_X7_readType (l : Launch) (dC : Nat → ClassId) (dI : Nat → Nat → Nat) (cI cZ cL : ClassId) (h0 m8 m9 m10 : Nat) (sz : Nat) (m1 m2 m3 m4 m5 m6 m7 m11 m12 m13 m14 m15 m16 m17 m18 m19 m20 m21 : Nat) : Met l yX7_readType (wd yX7_readType cX7_readType 5 (some .int)) ({ frames := 1, cells := 0, slots := 0, locals := 23 }) (va_Pc [.ref h0] (hp dC dI cI cZ cL sz [(h0, .inr (7, [.int 0, .ref m1, .int 0, .int 0, .int 0, .int 0, .int (-1), .int 0, .int 0, .ref m2, .ref m3, .ref m4, .int 0, .ref m5, .ref m6, .ref m7, .int 0, .ref m8, .ref m9, .ref m10, .int 0, .int 0, .ref m11, .ref m12, .ref m13, .int 0, .int 0, .ref m14, .int 0, .ref m15, .ref m16, .ref m17, .int 0, .int 0, .ref m18, .ref m19, .ref m20, .int 0, .ref m21])), (m8, .inl (cI, 130, .inl zI)), (m9, .inl (cI, 130, .inl zI)), (m10, .inl (cI, 130, .inl zI))])) (va_Qi (fun (r : Int32) (_ : Unit) => r = -1) (fun (_ : Unit) t => va_P (dC, dI) vwCl [(h0, .inr (7, [.int 0, .ref m1, .int 0, .int 0, .int 0, .int 1, .int 0, .int 0, .int 0, .ref m2, .ref m3, .ref m4, .int 0, .ref m5, .ref m6, .ref m7, .int 0, .ref m8, .ref m9, .ref m10, .int 1, .int 0, .ref m11, .ref m12, .ref m13, .int 0, .int 0, .ref m14, .int 0, .ref m15, .ref m16, .ref m17, .int 0, .int 0, .ref m18, .ref m19, .ref m20, .int 0, .ref m21]))] t.heap ∧ va_D (va_A [(h0, .inr (7, [.int 0, .ref m1, .int 0, .int 0, .int 0, .int 0, .int (-1), .int 0, .int 0, .ref m2, .ref m3, .ref m4, .int 0, .ref m5, .ref m6, .ref m7, .int 0, .ref m8, .ref m9, .ref m10, .int 0, .int 0, .ref m11, .ref m12, .ref m13, .int 0, .int 0, .ref m14, .int 0, .ref m15, .ref m16, .ref m17, .int 0, .int 0, .ref m18, .ref m19, .ref m20, .int 0, .ref m21])), (m8, .inl (cI, 130, .inl zI)), (m9, .inl (cI, 130, .inl zI)), (m10, .inl (cI, 130, .inl zI))] sz) [(h0, .inr (7, [.int 0, .ref m1, .int 0, .int 0, .int 0, .int 1, .int 0, .int 0, .int 0, .ref m2, .ref m3, .ref m4, .int 0, .ref m5, .ref m6, .ref m7, .int 0, .ref m8, .ref m9, .ref m10, .int 1, .int 0, .ref m11, .ref m12, .ref m13, .int 0, .int 0, .ref m14, .int 0, .ref m15, .ref m16, .ref m17, .int 0, .int 0, .ref m18, .ref m19, .ref m20, .int 0, .ref m21]))]) (va_A [(h0, .inr (7, [.int 0, .ref m1, .int 0, .int 0, .int 0, .int 0, .int (-1), .int 0, .int 0, .ref m2, .ref m3, .ref m4, .int 0, .ref m5, .ref m6, .ref m7, .int 0, .ref m8, .ref m9, .ref m10, .int 0, .int 0, .ref m11, .ref m12, .ref m13, .int 0, .int 0, .ref m14, .int 0, .ref m15, .ref m16, .ref m17, .int 0, .int 0, .ref m18, .ref m19, .ref m20, .int 0, .ref m21])), (m8, .inl (cI, 130, .inl zI)), (m9, .inl (cI, 130, .inl zI)), (m10, .inl (cI, 130, .inl zI))] sz)) 0 0 (va_A [(h0, .inr (7, [.int 0, .ref m1, .int 0, .int 0, .int 0, .int 0, .int (-1), .int 0, .int 0, .ref m2, .ref m3, .ref m4, .int 0, .ref m5, .ref m6, .ref m7, .int 0, .ref m8, .ref m9, .ref m10, .int 0, .int 0, .ref m11, .ref m12, .ref m13, .int 0, .int 0, .ref m14, .int 0, .ref m15, .ref m16, .ref m17, .int 0, .int 0, .ref m18, .ref m19, .ref m20, .int 0, .ref m21])), (m8, .inl (cI, 130, .inl zI)), (m9, .inl (cI, 130, .inl zI)), (m10, .inl (cI, 130, .inl zI))] sz) := by
  refine Met.ofW (cc := cX7_readType) (maxL := 5) (ret := (some .int)) (by decide) rfl ?_
  intro p e s m args below meth c s₁ B hml hv
  obtain ⟨rfl, hsz, hP, hK, hD0⟩ := hv
  have hx := B.exec
  have hb := B.bytes
  have hr := B.returns
  have hw9 := atoms_spec (ws := (wd yX7_readType cX7_readType 5 (some .int))) B.pre
  have hg := gw_hts hw9
  have hown : s.vm.findClass RX7 = some m.cls := findClass_of_methodNamed B.named
  have hlocks := B.notSynchronized
  subst hsz
  have hD := hD0.self (sz := s.heap.size)
  generalize hAe : va_A [(h0, .inr (7, [.int 0, .ref m1, .int 0, .int 0, .int 0, .int 0, .int (-1), .int 0, .int 0, .ref m2, .ref m3, .ref m4, .int 0, .ref m5, .ref m6, .ref m7, .int 0, .ref m8, .ref m9, .ref m10, .int 0, .int 0, .ref m11, .ref m12, .ref m13, .int 0, .int 0, .ref m14, .int 0, .ref m15, .ref m16, .ref m17, .int 0, .int 0, .ref m18, .ref m19, .ref m20, .int 0, .ref m21])), (m8, .inl (cI, 130, .inl zI)), (m9, .inl (cI, 130, .inl zI)), (m10, .inl (cI, 130, .inl zI))] s.heap.size = A at hD ⊢
  have hA : ∀ q : Nat, s.heap.size ≤ q → A q := fun q h => by rw [← hAe]; exact Or.inr h
  have hS : va_S A s.heap s.heap [] := va_S.rf
  have hl := lv_entry ([.ref h0]) (n := 5) (Nat.le_of_ble_eq_true rfl)
  rw [lg_entry_eq]
  generalize (lg_sl ([.ref h0]) ++ List.replicate (5 - (lg_sl ([.ref h0])).length) Slot.unset).toArray = ls at hl ⊢
  have hl : lv_has ls 5 [(0, .ref h0)] := hl
  refine lv_aload_n hx hb dX7_readType_0 rfl (lv_at hl 0 rfl) ?_
  refine va_get (D := (dC, dI)) (ci := 7) (v := .int 0) (C := RX7) (T := TX7) (N := 39) hx hb hg i_X7 hown hK hP 0 rfl rfl 20 (by decide) (hg _ k_230) (fun _ h9 => h9) rfl dX7_readType_1 ?_
  refine lv_istore_n (lv' := [(1, .int 0), (0, .ref h0)]) hx hb dX7_readType_4 rfl hl (by decide) rfl (fun ls hl => ?_)
  refine lv_aload_n hx hb dX7_readType_5 rfl (lv_at hl 1 rfl) ?_
  refine lv_iconst (v := 0) hx hb dX7_readType_6 (by decide) ?_
  refine lv_iconst (v := 0) hx hb dX7_readType_7 (by decide) ?_
  refine lv_iconst (v := 0) hx hb dX7_readType_8 (by decide) ?_
  have hPc := hP.sub (ws' := [(h0, .inr (7, [.int 0, .ref m1, .int 0, .int 0, .int 0, .int 0, .int (-1), .int 0, .int 0, .ref m2, .ref m3, .ref m4, .int 0, .ref m5, .ref m6, .ref m7, .int 0, .ref m8, .ref m9, .ref m10, .int 0, .int 0, .ref m11, .ref m12, .ref m13, .int 0, .int 0, .ref m14, .int 0, .ref m15, .ref m16, .ref m17, .int 0, .int 0, .ref m18, .ref m19, .ref m20, .int 0, .ref m21])), (m8, .inl (cI, 130, .inl zI)), (m9, .inl (cI, 130, .inl zI)), (m10, .inl (cI, 130, .inl zI))]) [0, 1, 2, 3] rfl
  have hDc := hD.sub (ws' := [(h0, .inr (7, [.int 0, .ref m1, .int 0, .int 0, .int 0, .int 0, .int (-1), .int 0, .int 0, .ref m2, .ref m3, .ref m4, .int 0, .ref m5, .ref m6, .ref m7, .int 0, .ref m8, .ref m9, .ref m10, .int 0, .int 0, .ref m11, .ref m12, .ref m13, .int 0, .int 0, .ref m14, .int 0, .ref m15, .ref m16, .ref m17, .int 0, .int 0, .ref m18, .ref m19, .ref m20, .int 0, .ref m21])), (m8, .inl (cI, 130, .inl zI)), (m9, .inl (cI, 130, .inl zI)), (m10, .inl (cI, 130, .inl zI))]) [0, 1, 2, 3] (by decide) rfl
  have hFc := va_free (wc := [(h0, .inr (7, [.int 0, .ref m1, .int 0, .int 0, .int 0, .int 0, .int (-1), .int 0, .int 0, .ref m2, .ref m3, .ref m4, .int 0, .ref m5, .ref m6, .ref m7, .int 0, .ref m8, .ref m9, .ref m10, .int 0, .int 0, .ref m11, .ref m12, .ref m13, .int 0, .int 0, .ref m14, .int 0, .ref m15, .ref m16, .ref m17, .int 0, .int 0, .ref m18, .ref m19, .ref m20, .int 0, .ref m21])), (m8, .inl (cI, 130, .inl zI)), (m9, .inl (cI, 130, .inl zI)), (m10, .inl (cI, 130, .inl zI))]) hD hS hA [0, 1, 2, 3] rfl
  refine va_callv (va_runV (As := [.int 0, .int 0, .int 0]) (rest := []) ⟨hx, hb, hml, hown, hg⟩ (c_X7_open l dC dI cI cZ cL h0 m8 m9 m10 (Array.size _) m1 m2 m3 m4 m5 m6 m7 m11 m12 m13 m14 m15 m16 m17 m18 m19 m20 m21) (cwV 3 hg (gw_V k_242 k_243 k_244 k_245 g_yX7_open) rfl rfl rfl (by decide +kernel) ⟨(Nat.le_of_ble_eq_true rfl), (Nat.le_of_ble_eq_true rfl)⟩) ⟨hp_bl, va_recv hK hPc (ci := 7) (q0 := 0) rfl rfl, fun U hU hW => hp_ok hU hW hPc hK hDc⟩ rfl rfl hl.1 rfl (lv_room (Nat.le_of_ble_eq_true rfl)) dX7_readType_9 ⟨(Nat.le_of_ble_eq_true rfl), (Nat.le_of_ble_eq_true rfl)⟩) hS (fun q _ h => hFc q h) hFc (fun u t H locs ht hvm hw hB hz1 hk1 hS => ?_)
  obtain ⟨hP1, hD1⟩ := hB
  rw [ht] at hP1
  obtain ⟨hP, hD⟩ := va_join (wr := []) (w1 := [(h0, .inr (7, [.int 0, .ref m1, .int 0, .int 0, .int 0, .int 0, .int (-1), .int 0, .int 0, .ref m2, .ref m3, .ref m4, .int 0, .ref m5, .ref m6, .ref m7, .int 0, .ref m8, .ref m9, .ref m10, .int 1, .int 0, .ref m11, .ref m12, .ref m13, .int 0, .int 0, .ref m14, .int 0, .ref m15, .ref m16, .ref m17, .int 0, .int 0, .ref m18, .ref m19, .ref m20, .int 0, .ref m21]))]) hP hD [0, 1, 2, 3] [] rfl rfl (by decide) (by decide) hk1 hFc hP1 hD1
  have hP : va_P (dC, dI) vwCl [(h0, .inr (7, [.int 0, .ref m1, .int 0, .int 0, .int 0, .int 0, .int (-1), .int 0, .int 0, .ref m2, .ref m3, .ref m4, .int 0, .ref m5, .ref m6, .ref m7, .int 0, .ref m8, .ref m9, .ref m10, .int 1, .int 0, .ref m11, .ref m12, .ref m13, .int 0, .int 0, .ref m14, .int 0, .ref m15, .ref m16, .ref m17, .int 0, .int 0, .ref m18, .ref m19, .ref m20, .int 0, .ref m21]))] H := hP
  have hD : va_D A [(h0, .inr (7, [.int 0, .ref m1, .int 0, .int 0, .int 0, .int 0, .int (-1), .int 0, .int 0, .ref m2, .ref m3, .ref m4, .int 0, .ref m5, .ref m6, .ref m7, .int 0, .ref m8, .ref m9, .ref m10, .int 1, .int 0, .ref m11, .ref m12, .ref m13, .int 0, .int 0, .ref m14, .int 0, .ref m15, .ref m16, .ref m17, .int 0, .int 0, .ref m18, .ref m19, .ref m20, .int 0, .ref m21]))] := hD
  refine W.widen (k := 0) (n := 0) (Nat.le_of_ble_eq_true rfl) (Nat.le_of_ble_eq_true rfl) ?_
  refine lv_iconst (v := (-1)) hx hb dX7_readType_12 (by decide) ?_
  refine lv_istore_n (lv' := [(2, .int (-1)), (1, .int 0), (0, .ref h0)]) hx hb dX7_readType_13 rfl hl (by decide) rfl (fun ls hl => ?_)
  refine lv_aload_n hx hb dX7_readType_14 rfl (lv_at hl 2 rfl) ?_
  refine va_get (D := (dC, dI)) (ci := 7) (v := .int 0) (C := RX7) (T := TX7) (N := 39) hx hb hg i_X7 hown hK hP 0 rfl rfl 5 (by decide) (hg _ k_229) (fun _ h9 => h9) rfl dX7_readType_15 ?_
  refine lv_if_ne (tgt := 322) hx hb dX7_readType_18 (by decide) (fun c9 => absurd c9 (by decide)) (fun _ => ?_)
  refine lv_aload_n hx hb dX7_readType_21 rfl (lv_at hl 2 rfl) ?_
  have hPc := hP.sub (ws' := [(h0, .inr (7, [.int 0, .ref m1, .int 0, .int 0, .int 0, .int 0, .int (-1), .int 0, .int 0, .ref m2, .ref m3, .ref m4, .int 0, .ref m5, .ref m6, .ref m7, .int 0, .ref m8, .ref m9, .ref m10, .int 1, .int 0, .ref m11, .ref m12, .ref m13, .int 0, .int 0, .ref m14, .int 0, .ref m15, .ref m16, .ref m17, .int 0, .int 0, .ref m18, .ref m19, .ref m20, .int 0, .ref m21]))]) [0] rfl
  have hDc := hD.sub (ws' := [(h0, .inr (7, [.int 0, .ref m1, .int 0, .int 0, .int 0, .int 0, .int (-1), .int 0, .int 0, .ref m2, .ref m3, .ref m4, .int 0, .ref m5, .ref m6, .ref m7, .int 0, .ref m8, .ref m9, .ref m10, .int 1, .int 0, .ref m11, .ref m12, .ref m13, .int 0, .int 0, .ref m14, .int 0, .ref m15, .ref m16, .ref m17, .int 0, .int 0, .ref m18, .ref m19, .ref m20, .int 0, .ref m21]))]) [0] (by decide) rfl
  have hFc := va_free (wc := [(h0, .inr (7, [.int 0, .ref m1, .int 0, .int 0, .int 0, .int 0, .int (-1), .int 0, .int 0, .ref m2, .ref m3, .ref m4, .int 0, .ref m5, .ref m6, .ref m7, .int 0, .ref m8, .ref m9, .ref m10, .int 1, .int 0, .ref m11, .ref m12, .ref m13, .int 0, .int 0, .ref m14, .int 0, .ref m15, .ref m16, .ref m17, .int 0, .int 0, .ref m18, .ref m19, .ref m20, .int 0, .ref m21]))]) hD hS hA [0] rfl
  refine va_calli (va_runV (As := []) (rest := []) ⟨hx, hb, hml, hown, hg⟩ (c_X7_see l dC dI cI cZ cL h0 (Array.size _) m1 m2 m3 m4 m5 m6 m7 m8 m9 m10 m11 m12 m13 m14 m15 m16 m17 m18 m19 m20 m21) (cwV 0 hg (gw_V k_246 k_247 k_248 k_245 g_yX7_see) rfl rfl rfl (by decide +kernel) ⟨(Nat.le_of_ble_eq_true rfl), (Nat.le_of_ble_eq_true rfl)⟩) ⟨hp_bl, va_recv hK hPc (ci := 7) (q0 := 0) rfl rfl, fun U hU hW => hp_ok hU hW hPc hK hDc⟩ rfl rfl hl.1 rfl (lv_room (Nat.le_of_ble_eq_true rfl)) dX7_readType_22 ⟨(Nat.le_of_ble_eq_true rfl), (Nat.le_of_ble_eq_true rfl)⟩) hS (fun q _ h => hFc q h) hFc (fun r9 u t H locs ht hvm hw hB hz1 hk1 hS => ?_)
  obtain ⟨hP1, hD1⟩ := hB
  rw [ht] at hP1
  obtain ⟨hP, hD⟩ := va_join (wr := []) (w1 := [(h0, .inr (7, [.int 0, .ref m1, .int 0, .int 0, .int 0, .int 0, .int (-1), .int 0, .int 0, .ref m2, .ref m3, .ref m4, .int 0, .ref m5, .ref m6, .ref m7, .int 0, .ref m8, .ref m9, .ref m10, .int 1, .int 0, .ref m11, .ref m12, .ref m13, .int 0, .int 0, .ref m14, .int 0, .ref m15, .ref m16, .ref m17, .int 0, .int 0, .ref m18, .ref m19, .ref m20, .int 0, .ref m21]))]) hP hD [0] [] rfl rfl (by decide) (by decide) hk1 hFc hP1 hD1
  have hP : va_P (dC, dI) vwCl [(h0, .inr (7, [.int 0, .ref m1, .int 0, .int 0, .int 0, .int 0, .int (-1), .int 0, .int 0, .ref m2, .ref m3, .ref m4, .int 0, .ref m5, .ref m6, .ref m7, .int 0, .ref m8, .ref m9, .ref m10, .int 1, .int 0, .ref m11, .ref m12, .ref m13, .int 0, .int 0, .ref m14, .int 0, .ref m15, .ref m16, .ref m17, .int 0, .int 0, .ref m18, .ref m19, .ref m20, .int 0, .ref m21]))] H := hP
  have hD : va_D A [(h0, .inr (7, [.int 0, .ref m1, .int 0, .int 0, .int 0, .int 0, .int (-1), .int 0, .int 0, .ref m2, .ref m3, .ref m4, .int 0, .ref m5, .ref m6, .ref m7, .int 0, .ref m8, .ref m9, .ref m10, .int 1, .int 0, .ref m11, .ref m12, .ref m13, .int 0, .int 0, .ref m14, .int 0, .ref m15, .ref m16, .ref m17, .int 0, .int 0, .ref m18, .ref m19, .ref m20, .int 0, .ref m21]))] := hD
  refine W.widen (k := 0) (n := 0) (Nat.le_of_ble_eq_true rfl) (Nat.le_of_ble_eq_true rfl) ?_
  obtain rfl : r9 = (-1) := hw
  refine lv_istore_n (lv' := [(3, .int (-1)), (2, .int (-1)), (1, .int 0), (0, .ref h0)]) hx hb dX7_readType_25 rfl hl (by decide) rfl (fun ls hl => ?_)
  refine lv_iconst (v := (-1)) hx hb dX7_readType_26 (by decide) ?_
  refine lv_istore_n (lv' := [(2, .int (-1)), (3, .int (-1)), (1, .int 0), (0, .ref h0)]) hx hb dX7_readType_27 rfl hl (by decide) rfl (fun ls hl => ?_)
  refine lv_iload_n hx hb dX7_readType_28 rfl (lv_at hl 1 rfl) ?_
  refine lv_bipush (v := 49) hx hb dX7_readType_29 (by decide) ?_
  refine lv_icmp_ne (tgt := 55) hx hb dX7_readType_31 (by decide) (fun _ => ?_) (fun c9 => absurd c9 (by decide))
  refine lv_iload_n hx hb dX7_readType_55 rfl (lv_at hl 1 rfl) ?_
  have hPc := hP.sub (ws' := []) [] rfl
  have hDc := hD.sub (ws' := []) [] (by decide) rfl
  have hFc := va_free (wc := []) hD hS hA [] rfl
  refine va_calli (va_runS (As := [.int (-1)]) (rest := []) ⟨hx, hb, hml, hown, hg⟩ (c_X7_isLetter l dC dI cI cZ cL  (Array.size _)) (va_cwS 1 hg (gw_S k_249 k_250 k_245 g_yX7_isLetter) rfl rfl rfl (by decide +kernel) ⟨(Nat.le_of_ble_eq_true rfl), (Nat.le_of_ble_eq_true rfl)⟩) ⟨hp_bl, fun U hU hW => hp_ok hU hW hPc hK hDc⟩ rfl rfl hl.1 rfl (lv_room (Nat.le_of_ble_eq_true rfl)) dX7_readType_56 ⟨(Nat.le_of_ble_eq_true rfl), (Nat.le_of_ble_eq_true rfl)⟩) hS (fun q _ h => hFc q h) hFc (fun r9 u t H locs ht hvm hw hB hz1 hk1 hS => ?_)
  obtain ⟨hP1, hD1⟩ := hB
  rw [ht] at hP1
  obtain ⟨hP, hD⟩ := va_join (wr := [(h0, .inr (7, [.int 0, .ref m1, .int 0, .int 0, .int 0, .int 0, .int (-1), .int 0, .int 0, .ref m2, .ref m3, .ref m4, .int 0, .ref m5, .ref m6, .ref m7, .int 0, .ref m8, .ref m9, .ref m10, .int 1, .int 0, .ref m11, .ref m12, .ref m13, .int 0, .int 0, .ref m14, .int 0, .ref m15, .ref m16, .ref m17, .int 0, .int 0, .ref m18, .ref m19, .ref m20, .int 0, .ref m21]))]) (w1 := []) hP hD [] [0] rfl rfl (by decide) (by decide) hk1 hFc hP1 hD1
  have hP : va_P (dC, dI) vwCl [(h0, .inr (7, [.int 0, .ref m1, .int 0, .int 0, .int 0, .int 0, .int (-1), .int 0, .int 0, .ref m2, .ref m3, .ref m4, .int 0, .ref m5, .ref m6, .ref m7, .int 0, .ref m8, .ref m9, .ref m10, .int 1, .int 0, .ref m11, .ref m12, .ref m13, .int 0, .int 0, .ref m14, .int 0, .ref m15, .ref m16, .ref m17, .int 0, .int 0, .ref m18, .ref m19, .ref m20, .int 0, .ref m21]))] H := hP
  have hD : va_D A [(h0, .inr (7, [.int 0, .ref m1, .int 0, .int 0, .int 0, .int 0, .int (-1), .int 0, .int 0, .ref m2, .ref m3, .ref m4, .int 0, .ref m5, .ref m6, .ref m7, .int 0, .ref m8, .ref m9, .ref m10, .int 1, .int 0, .ref m11, .ref m12, .ref m13, .int 0, .int 0, .ref m14, .int 0, .ref m15, .ref m16, .ref m17, .int 0, .int 0, .ref m18, .ref m19, .ref m20, .int 0, .ref m21]))] := hD
  refine W.widen (k := 0) (n := 0) (Nat.le_of_ble_eq_true rfl) (Nat.le_of_ble_eq_true rfl) ?_
  obtain rfl : r9 = 0 := hw
  refine lv_if_eq (tgt := 101) hx hb dX7_readType_59 (by decide) (fun _ => ?_) (fun c9 => absurd (by decide) c9)
  refine lv_iload_n hx hb dX7_readType_101 rfl (lv_at hl 1 rfl) ?_
  refine lv_bipush (v := 33) hx hb dX7_readType_102 (by decide) ?_
  refine lv_icmp_ne (tgt := 115) hx hb dX7_readType_104 (by decide) (fun _ => ?_) (fun c9 => absurd c9 (by decide))
  refine lv_iload_n hx hb dX7_readType_115 rfl (lv_at hl 1 rfl) ?_
  refine lv_bipush (v := 40) hx hb dX7_readType_116 (by decide) ?_
  refine lv_icmp_ne (tgt := 138) hx hb dX7_readType_118 (by decide) (fun _ => ?_) (fun c9 => absurd c9 (by decide))
  refine lv_aload_n hx hb dX7_readType_138 rfl (lv_at hl 3 rfl) ?_
  have hPc := hP.sub (ws' := [(h0, .inr (7, [.int 0, .ref m1, .int 0, .int 0, .int 0, .int 0, .int (-1), .int 0, .int 0, .ref m2, .ref m3, .ref m4, .int 0, .ref m5, .ref m6, .ref m7, .int 0, .ref m8, .ref m9, .ref m10, .int 1, .int 0, .ref m11, .ref m12, .ref m13, .int 0, .int 0, .ref m14, .int 0, .ref m15, .ref m16, .ref m17, .int 0, .int 0, .ref m18, .ref m19, .ref m20, .int 0, .ref m21]))]) [0] rfl
  have hDc := hD.sub (ws' := [(h0, .inr (7, [.int 0, .ref m1, .int 0, .int 0, .int 0, .int 0, .int (-1), .int 0, .int 0, .ref m2, .ref m3, .ref m4, .int 0, .ref m5, .ref m6, .ref m7, .int 0, .ref m8, .ref m9, .ref m10, .int 1, .int 0, .ref m11, .ref m12, .ref m13, .int 0, .int 0, .ref m14, .int 0, .ref m15, .ref m16, .ref m17, .int 0, .int 0, .ref m18, .ref m19, .ref m20, .int 0, .ref m21]))]) [0] (by decide) rfl
  have hFc := va_free (wc := [(h0, .inr (7, [.int 0, .ref m1, .int 0, .int 0, .int 0, .int 0, .int (-1), .int 0, .int 0, .ref m2, .ref m3, .ref m4, .int 0, .ref m5, .ref m6, .ref m7, .int 0, .ref m8, .ref m9, .ref m10, .int 1, .int 0, .ref m11, .ref m12, .ref m13, .int 0, .int 0, .ref m14, .int 0, .ref m15, .ref m16, .ref m17, .int 0, .int 0, .ref m18, .ref m19, .ref m20, .int 0, .ref m21]))]) hD hS hA [0] rfl
  refine va_callv (va_runV (As := []) (rest := []) ⟨hx, hb, hml, hown, hg⟩ (c_X7_fail l dC dI cI cZ cL h0 (Array.size _) m1 m2 m3 m4 m5 m6 m7 m8 m9 m10 m11 m12 m13 m14 m15 m16 m17 m18 m19 m20 m21) (cwV 0 hg (gw_V k_251 k_252 k_253 k_245 g_yX7_fail) rfl rfl rfl (by decide +kernel) ⟨(Nat.le_of_ble_eq_true rfl), (Nat.le_of_ble_eq_true rfl)⟩) ⟨hp_bl, va_recv hK hPc (ci := 7) (q0 := 0) rfl rfl, fun U hU hW => hp_ok hU hW hPc hK hDc⟩ rfl rfl hl.1 rfl (lv_room (Nat.le_of_ble_eq_true rfl)) dX7_readType_139 ⟨(Nat.le_of_ble_eq_true rfl), (Nat.le_of_ble_eq_true rfl)⟩) hS (fun q _ h => hFc q h) hFc (fun u t H locs ht hvm hw hB hz1 hk1 hS => ?_)
  obtain ⟨hP1, hD1⟩ := hB
  rw [ht] at hP1
  obtain ⟨hP, hD⟩ := va_join (wr := []) (w1 := [(h0, .inr (7, [.int 0, .ref m1, .int 0, .int 0, .int 0, .int 1, .int 0, .int 0, .int 0, .ref m2, .ref m3, .ref m4, .int 0, .ref m5, .ref m6, .ref m7, .int 0, .ref m8, .ref m9, .ref m10, .int 1, .int 0, .ref m11, .ref m12, .ref m13, .int 0, .int 0, .ref m14, .int 0, .ref m15, .ref m16, .ref m17, .int 0, .int 0, .ref m18, .ref m19, .ref m20, .int 0, .ref m21]))]) hP hD [0] [] rfl rfl (by decide) (by decide) hk1 hFc hP1 hD1
  have hP : va_P (dC, dI) vwCl [(h0, .inr (7, [.int 0, .ref m1, .int 0, .int 0, .int 0, .int 1, .int 0, .int 0, .int 0, .ref m2, .ref m3, .ref m4, .int 0, .ref m5, .ref m6, .ref m7, .int 0, .ref m8, .ref m9, .ref m10, .int 1, .int 0, .ref m11, .ref m12, .ref m13, .int 0, .int 0, .ref m14, .int 0, .ref m15, .ref m16, .ref m17, .int 0, .int 0, .ref m18, .ref m19, .ref m20, .int 0, .ref m21]))] H := hP
  have hD : va_D A [(h0, .inr (7, [.int 0, .ref m1, .int 0, .int 0, .int 0, .int 1, .int 0, .int 0, .int 0, .ref m2, .ref m3, .ref m4, .int 0, .ref m5, .ref m6, .ref m7, .int 0, .ref m8, .ref m9, .ref m10, .int 1, .int 0, .ref m11, .ref m12, .ref m13, .int 0, .int 0, .ref m14, .int 0, .ref m15, .ref m16, .ref m17, .int 0, .int 0, .ref m18, .ref m19, .ref m20, .int 0, .ref m21]))] := hD
  refine W.widen (k := 0) (n := 0) (Nat.le_of_ble_eq_true rfl) (Nat.le_of_ble_eq_true rfl) ?_
  refine lv_aload_n hx hb dX7_readType_142 rfl (lv_at hl 3 rfl) ?_
  refine va_get (D := (dC, dI)) (ci := 7) (v := .int 1) (C := RX7) (T := TX7) (N := 39) hx hb hg i_X7 hown hK hP 0 rfl rfl 5 (by decide) (hg _ k_229) (fun _ h9 => h9) rfl dX7_readType_143 ?_
  refine lv_if_ne (tgt := 319) hx hb dX7_readType_146 (by decide) (fun _ => ?_) (fun c9 => absurd c9 (by decide))
  refine lv_goto (tgt := 14) hx hb dX7_readType_319 (by decide) ?_
  refine lv_aload_n hx hb dX7_readType_14 rfl (lv_at hl 3 rfl) ?_
  refine va_get (D := (dC, dI)) (ci := 7) (v := .int 1) (C := RX7) (T := TX7) (N := 39) hx hb hg i_X7 hown hK hP 0 rfl rfl 5 (by decide) (hg _ k_229) (fun _ h9 => h9) rfl dX7_readType_15 ?_
  refine lv_if_ne (tgt := 322) hx hb dX7_readType_18 (by decide) (fun _ => ?_) (fun c9 => absurd c9 (by decide))
  refine lv_iload_n hx hb dX7_readType_322 rfl (lv_at hl 0 rfl) ?_
  have hP9 := hP.sub (ws' := [(h0, .inr (7, [.int 0, .ref m1, .int 0, .int 0, .int 0, .int 1, .int 0, .int 0, .int 0, .ref m2, .ref m3, .ref m4, .int 0, .ref m5, .ref m6, .ref m7, .int 0, .ref m8, .ref m9, .ref m10, .int 1, .int 0, .ref m11, .ref m12, .ref m13, .int 0, .int 0, .ref m14, .int 0, .ref m15, .ref m16, .ref m17, .int 0, .int 0, .ref m18, .ref m19, .ref m20, .int 0, .ref m21]))]) [0] rfl
  have hD9 := hD.sub (ws' := [(h0, .inr (7, [.int 0, .ref m1, .int 0, .int 0, .int 0, .int 1, .int 0, .int 0, .int 0, .ref m2, .ref m3, .ref m4, .int 0, .ref m5, .ref m6, .ref m7, .int 0, .ref m8, .ref m9, .ref m10, .int 1, .int 0, .ref m11, .ref m12, .ref m13, .int 0, .int 0, .ref m14, .int 0, .ref m15, .ref m16, .ref m17, .int 0, .int 0, .ref m18, .ref m19, .ref m20, .int 0, .ref m21]))]) [0] (by decide) rfl
  refine W.widen (k := 0) (n := 0) (Nat.le_of_ble_eq_true rfl) (Nat.le_of_ble_eq_true rfl) ?_
  exact W.iret (v := (-1)) hx hb hr (fun t ht hW => ⟨⟨(-1), (), rfl, rfl, by rw [ht]; exact hP9, hD9⟩, hS.F ht⟩) hS.2.2 dX7_readType_323

set_option maxHeartbeats 4000000 in
set_option maxRecDepth 100000 in
/-- infer() with nothing taped -/
theorem c_X7_infer (l : Launch) (dC : Nat → ClassId) (dI : Nat → Nat → Nat) (cI cZ cL : ClassId) (h0 m8 m9 m10 m18 : Nat) (sz : Nat) (m1 m2 m3 m4 m5 m6 m7 m11 m12 m13 m14 m15 m16 m17 m19 m20 m21 : Nat) : Met l yX7_infer (wd yX7_infer cX7_infer 2 (some .boolean)) ({ frames := 2, cells := 0, slots := 0, locals := 51 }) (va_Pc [.ref h0] (hp dC dI cI cZ cL sz [(h0, .inr (7, [.int 0, .ref m1, .int 0, .int 0, .int 0, .int 0, .int (-1), .int 0, .int 0, .ref m2, .ref m3, .ref m4, .int 0, .ref m5, .ref m6, .ref m7, .int 0, .ref m8, .ref m9, .ref m10, .int 0, .int 0, .ref m11, .ref m12, .ref m13, .int 0, .int 0, .ref m14, .int 0, .ref m15, .ref m16, .ref m17, .int 0, .int 0, .ref m18, .ref m19, .ref m20, .int 0, .ref m21])), (m8, .inl (cI, 130, .inl zI)), (m9, .inl (cI, 130, .inl zI)), (m10, .inl (cI, 130, .inl zI)), (m18, .inl (cI, 8000, .inl zI))])) (va_Qi (fun (r : Int32) (_ : Unit) => r = 0) (fun (_ : Unit) t => va_P (dC, dI) vwCl [(h0, .inr (7, [.int 1, .ref m1, .int 0, .int 0, .int 0, .int 1, .int 0, .int 0, .int 0, .ref m2, .ref m3, .ref m4, .int 0, .ref m5, .ref m6, .ref m7, .int 0, .ref m8, .ref m9, .ref m10, .int 1, .int 0, .ref m11, .ref m12, .ref m13, .int 0, .int 0, .ref m14, .int 0, .ref m15, .ref m16, .ref m17, .int 0, .int 0, .ref m18, .ref m19, .ref m20, .int 0, .ref m21]))] t.heap ∧ va_D (va_A [(h0, .inr (7, [.int 0, .ref m1, .int 0, .int 0, .int 0, .int 0, .int (-1), .int 0, .int 0, .ref m2, .ref m3, .ref m4, .int 0, .ref m5, .ref m6, .ref m7, .int 0, .ref m8, .ref m9, .ref m10, .int 0, .int 0, .ref m11, .ref m12, .ref m13, .int 0, .int 0, .ref m14, .int 0, .ref m15, .ref m16, .ref m17, .int 0, .int 0, .ref m18, .ref m19, .ref m20, .int 0, .ref m21])), (m8, .inl (cI, 130, .inl zI)), (m9, .inl (cI, 130, .inl zI)), (m10, .inl (cI, 130, .inl zI)), (m18, .inl (cI, 8000, .inl zI))] sz) [(h0, .inr (7, [.int 1, .ref m1, .int 0, .int 0, .int 0, .int 1, .int 0, .int 0, .int 0, .ref m2, .ref m3, .ref m4, .int 0, .ref m5, .ref m6, .ref m7, .int 0, .ref m8, .ref m9, .ref m10, .int 1, .int 0, .ref m11, .ref m12, .ref m13, .int 0, .int 0, .ref m14, .int 0, .ref m15, .ref m16, .ref m17, .int 0, .int 0, .ref m18, .ref m19, .ref m20, .int 0, .ref m21]))]) (va_A [(h0, .inr (7, [.int 0, .ref m1, .int 0, .int 0, .int 0, .int 0, .int (-1), .int 0, .int 0, .ref m2, .ref m3, .ref m4, .int 0, .ref m5, .ref m6, .ref m7, .int 0, .ref m8, .ref m9, .ref m10, .int 0, .int 0, .ref m11, .ref m12, .ref m13, .int 0, .int 0, .ref m14, .int 0, .ref m15, .ref m16, .ref m17, .int 0, .int 0, .ref m18, .ref m19, .ref m20, .int 0, .ref m21])), (m8, .inl (cI, 130, .inl zI)), (m9, .inl (cI, 130, .inl zI)), (m10, .inl (cI, 130, .inl zI)), (m18, .inl (cI, 8000, .inl zI))] sz)) 0 0 (va_A [(h0, .inr (7, [.int 0, .ref m1, .int 0, .int 0, .int 0, .int 0, .int (-1), .int 0, .int 0, .ref m2, .ref m3, .ref m4, .int 0, .ref m5, .ref m6, .ref m7, .int 0, .ref m8, .ref m9, .ref m10, .int 0, .int 0, .ref m11, .ref m12, .ref m13, .int 0, .int 0, .ref m14, .int 0, .ref m15, .ref m16, .ref m17, .int 0, .int 0, .ref m18, .ref m19, .ref m20, .int 0, .ref m21])), (m8, .inl (cI, 130, .inl zI)), (m9, .inl (cI, 130, .inl zI)), (m10, .inl (cI, 130, .inl zI)), (m18, .inl (cI, 8000, .inl zI))] sz) := by
  refine Met.ofW (cc := cX7_infer) (maxL := 2) (ret := (some .boolean)) (by decide) rfl ?_
  intro p e s m args below meth c s₁ B hml hv
  obtain ⟨rfl, hsz, hP, hK, hD0⟩ := hv
  have hx := B.exec
  have hb := B.bytes
  have hr := B.returns
  have hw9 := atoms_spec (ws := (wd yX7_infer cX7_infer 2 (some .boolean))) B.pre
  have hg := gw_hts hw9
  have hown : s.vm.findClass RX7 = some m.cls := findClass_of_methodNamed B.named
  have hlocks := B.notSynchronized
  subst hsz
  have hD := hD0.self (sz := s.heap.size)
  generalize hAe : va_A [(h0, .inr (7, [.int 0, .ref m1, .int 0, .int 0, .int 0, .int 0, .int (-1), .int 0, .int 0, .ref m2, .ref m3, .ref m4, .int 0, .ref m5, .ref m6, .ref m7, .int 0, .ref m8, .ref m9, .ref m10, .int 0, .int 0, .ref m11, .ref m12, .ref m13, .int 0, .int 0, .ref m14, .int 0, .ref m15, .ref m16, .ref m17, .int 0, .int 0, .ref m18, .ref m19, .ref m20, .int 0, .ref m21])), (m8, .inl (cI, 130, .inl zI)), (m9, .inl (cI, 130, .inl zI)), (m10, .inl (cI, 130, .inl zI)), (m18, .inl (cI, 8000, .inl zI))] s.heap.size = A at hD ⊢
  have hA : ∀ q : Nat, s.heap.size ≤ q → A q := fun q h => by rw [← hAe]; exact Or.inr h
  have hS : va_S A s.heap s.heap [] := va_S.rf
  have hl := lv_entry ([.ref h0]) (n := 2) (Nat.le_of_ble_eq_true rfl)
  rw [lg_entry_eq]
  generalize (lg_sl ([.ref h0]) ++ List.replicate (2 - (lg_sl ([.ref h0])).length) Slot.unset).toArray = ls at hl ⊢
  have hl : lv_has ls 2 [(0, .ref h0)] := hl
  refine lv_aload_n hx hb dX7_infer_0 rfl (lv_at hl 0 rfl) ?_
  have hPc := hP.sub (ws' := [(h0, .inr (7, [.int 0, .ref m1, .int 0, .int 0, .int 0, .int 0, .int (-1), .int 0, .int 0, .ref m2, .ref m3, .ref m4, .int 0, .ref m5, .ref m6, .ref m7, .int 0, .ref m8, .ref m9, .ref m10, .int 0, .int 0, .ref m11, .ref m12, .ref m13, .int 0, .int 0, .ref m14, .int 0, .ref m15, .ref m16, .ref m17, .int 0, .int 0, .ref m18, .ref m19, .ref m20, .int 0, .ref m21]))]) [0] rfl
  have hDc := hD.sub (ws' := [(h0, .inr (7, [.int 0, .ref m1, .int 0, .int 0, .int 0, .int 0, .int (-1), .int 0, .int 0, .ref m2, .ref m3, .ref m4, .int 0, .ref m5, .ref m6, .ref m7, .int 0, .ref m8, .ref m9, .ref m10, .int 0, .int 0, .ref m11, .ref m12, .ref m13, .int 0, .int 0, .ref m14, .int 0, .ref m15, .ref m16, .ref m17, .int 0, .int 0, .ref m18, .ref m19, .ref m20, .int 0, .ref m21]))]) [0] (by decide) rfl
  have hFc := va_free (wc := [(h0, .inr (7, [.int 0, .ref m1, .int 0, .int 0, .int 0, .int 0, .int (-1), .int 0, .int 0, .ref m2, .ref m3, .ref m4, .int 0, .ref m5, .ref m6, .ref m7, .int 0, .ref m8, .ref m9, .ref m10, .int 0, .int 0, .ref m11, .ref m12, .ref m13, .int 0, .int 0, .ref m14, .int 0, .ref m15, .ref m16, .ref m17, .int 0, .int 0, .ref m18, .ref m19, .ref m20, .int 0, .ref m21]))]) hD hS hA [0] rfl
  refine va_callv (va_runV (As := []) (rest := []) ⟨hx, hb, hml, hown, hg⟩ (c_X7_begin l dC dI cI cZ cL h0 (Array.size _) m1 m2 m3 m4 m5 m6 m7 m8 m9 m10 m11 m12 m13 m14 m15 m16 m17 m18 m19 m20 m21) (cwV 0 hg (gw_V k_254 k_255 k_256 k_245 g_yX7_begin) rfl rfl rfl (by decide +kernel) ⟨(Nat.le_of_ble_eq_true rfl), (Nat.le_of_ble_eq_true rfl)⟩) ⟨hp_bl, va_recv hK hPc (ci := 7) (q0 := 0) rfl rfl, fun U hU hW => hp_ok hU hW hPc hK hDc⟩ rfl rfl hl.1 rfl (lv_room (Nat.le_of_ble_eq_true rfl)) dX7_infer_1 ⟨(Nat.le_of_ble_eq_true rfl), (Nat.le_of_ble_eq_true rfl)⟩) hS (fun q _ h => hFc q h) hFc (fun u t H locs ht hvm hw hB hz1 hk1 hS => ?_)
  obtain ⟨hP1, hD1⟩ := hB
  rw [ht] at hP1
  obtain ⟨hP, hD⟩ := va_join (wr := [(m8, .inl (cI, 130, .inl zI)), (m9, .inl (cI, 130, .inl zI)), (m10, .inl (cI, 130, .inl zI)), (m18, .inl (cI, 8000, .inl zI))]) (w1 := [(h0, .inr (7, [.int 0, .ref m1, .int 0, .int 0, .int 0, .int 0, .int (-1), .int 0, .int 0, .ref m2, .ref m3, .ref m4, .int 0, .ref m5, .ref m6, .ref m7, .int 0, .ref m8, .ref m9, .ref m10, .int 0, .int 0, .ref m11, .ref m12, .ref m13, .int 0, .int 0, .ref m14, .int 0, .ref m15, .ref m16, .ref m17, .int 0, .int 0, .ref m18, .ref m19, .ref m20, .int 0, .ref m21]))]) hP hD [0] [1, 2, 3, 4] rfl rfl (by decide) (by decide) hk1 hFc hP1 hD1
  have hP : va_P (dC, dI) vwCl [(m8, .inl (cI, 130, .inl zI)), (m9, .inl (cI, 130, .inl zI)), (m10, .inl (cI, 130, .inl zI)), (m18, .inl (cI, 8000, .inl zI)), (h0, .inr (7, [.int 0, .ref m1, .int 0, .int 0, .int 0, .int 0, .int (-1), .int 0, .int 0, .ref m2, .ref m3, .ref m4, .int 0, .ref m5, .ref m6, .ref m7, .int 0, .ref m8, .ref m9, .ref m10, .int 0, .int 0, .ref m11, .ref m12, .ref m13, .int 0, .int 0, .ref m14, .int 0, .ref m15, .ref m16, .ref m17, .int 0, .int 0, .ref m18, .ref m19, .ref m20, .int 0, .ref m21]))] H := hP
  have hD : va_D A [(m8, .inl (cI, 130, .inl zI)), (m9, .inl (cI, 130, .inl zI)), (m10, .inl (cI, 130, .inl zI)), (m18, .inl (cI, 8000, .inl zI)), (h0, .inr (7, [.int 0, .ref m1, .int 0, .int 0, .int 0, .int 0, .int (-1), .int 0, .int 0, .ref m2, .ref m3, .ref m4, .int 0, .ref m5, .ref m6, .ref m7, .int 0, .ref m8, .ref m9, .ref m10, .int 0, .int 0, .ref m11, .ref m12, .ref m13, .int 0, .int 0, .ref m14, .int 0, .ref m15, .ref m16, .ref m17, .int 0, .int 0, .ref m18, .ref m19, .ref m20, .int 0, .ref m21]))] := hD
  refine W.widen (k := 0) (n := 0) (Nat.le_of_ble_eq_true rfl) (Nat.le_of_ble_eq_true rfl) ?_
  refine lv_aload_n hx hb dX7_infer_4 rfl (lv_at hl 0 rfl) ?_
  have hPc := hP.sub (ws' := [(h0, .inr (7, [.int 0, .ref m1, .int 0, .int 0, .int 0, .int 0, .int (-1), .int 0, .int 0, .ref m2, .ref m3, .ref m4, .int 0, .ref m5, .ref m6, .ref m7, .int 0, .ref m8, .ref m9, .ref m10, .int 0, .int 0, .ref m11, .ref m12, .ref m13, .int 0, .int 0, .ref m14, .int 0, .ref m15, .ref m16, .ref m17, .int 0, .int 0, .ref m18, .ref m19, .ref m20, .int 0, .ref m21])), (m8, .inl (cI, 130, .inl zI)), (m9, .inl (cI, 130, .inl zI)), (m10, .inl (cI, 130, .inl zI)), (m18, .inl (cI, 8000, .inl zI))]) [4, 0, 1, 2, 3] rfl
  have hDc := hD.sub (ws' := [(h0, .inr (7, [.int 0, .ref m1, .int 0, .int 0, .int 0, .int 0, .int (-1), .int 0, .int 0, .ref m2, .ref m3, .ref m4, .int 0, .ref m5, .ref m6, .ref m7, .int 0, .ref m8, .ref m9, .ref m10, .int 0, .int 0, .ref m11, .ref m12, .ref m13, .int 0, .int 0, .ref m14, .int 0, .ref m15, .ref m16, .ref m17, .int 0, .int 0, .ref m18, .ref m19, .ref m20, .int 0, .ref m21])), (m8, .inl (cI, 130, .inl zI)), (m9, .inl (cI, 130, .inl zI)), (m10, .inl (cI, 130, .inl zI)), (m18, .inl (cI, 8000, .inl zI))]) [4, 0, 1, 2, 3] (by decide) rfl
  have hFc := va_free (wc := [(h0, .inr (7, [.int 0, .ref m1, .int 0, .int 0, .int 0, .int 0, .int (-1), .int 0, .int 0, .ref m2, .ref m3, .ref m4, .int 0, .ref m5, .ref m6, .ref m7, .int 0, .ref m8, .ref m9, .ref m10, .int 0, .int 0, .ref m11, .ref m12, .ref m13, .int 0, .int 0, .ref m14, .int 0, .ref m15, .ref m16, .ref m17, .int 0, .int 0, .ref m18, .ref m19, .ref m20, .int 0, .ref m21])), (m8, .inl (cI, 130, .inl zI)), (m9, .inl (cI, 130, .inl zI)), (m10, .inl (cI, 130, .inl zI)), (m18, .inl (cI, 8000, .inl zI))]) hD hS hA [4, 0, 1, 2, 3] rfl
  refine va_calli (va_runV (As := []) (rest := []) ⟨hx, hb, hml, hown, hg⟩ (c_X7_readTerm l dC dI cI cZ cL h0 m8 m9 m10 m18 (Array.size _) m1 m2 m3 m4 m5 m6 m7 m11 m12 m13 m14 m15 m16 m17 m19 m20 m21) (cwV 0 hg (gw_V k_257 k_258 k_259 k_245 g_yX7_readTerm) rfl rfl rfl (by decide +kernel) ⟨(Nat.le_of_ble_eq_true rfl), (Nat.le_of_ble_eq_true rfl)⟩) ⟨hp_bl, va_recv hK hPc (ci := 7) (q0 := 0) rfl rfl, fun U hU hW => hp_ok hU hW hPc hK hDc⟩ rfl rfl hl.1 rfl (lv_room (Nat.le_of_ble_eq_true rfl)) dX7_infer_5 ⟨(Nat.le_of_ble_eq_true rfl), (Nat.le_of_ble_eq_true rfl)⟩) hS (fun q _ h => hFc q h) hFc (fun r9 u t H locs ht hvm hw hB hz1 hk1 hS => ?_)
  obtain ⟨hP1, hD1⟩ := hB
  rw [ht] at hP1
  obtain ⟨hP, hD⟩ := va_join (wr := []) (w1 := [(h0, .inr (7, [.int 0, .ref m1, .int 0, .int 0, .int 0, .int 1, .int 0, .int 0, .int 0, .ref m2, .ref m3, .ref m4, .int 0, .ref m5, .ref m6, .ref m7, .int 0, .ref m8, .ref m9, .ref m10, .int 1, .int 0, .ref m11, .ref m12, .ref m13, .int 0, .int 0, .ref m14, .int 0, .ref m15, .ref m16, .ref m17, .int 0, .int 0, .ref m18, .ref m19, .ref m20, .int 0, .ref m21]))]) hP hD [4, 0, 1, 2, 3] [] rfl rfl (by decide) (by decide) hk1 hFc hP1 hD1
  have hP : va_P (dC, dI) vwCl [(h0, .inr (7, [.int 0, .ref m1, .int 0, .int 0, .int 0, .int 1, .int 0, .int 0, .int 0, .ref m2, .ref m3, .ref m4, .int 0, .ref m5, .ref m6, .ref m7, .int 0, .ref m8, .ref m9, .ref m10, .int 1, .int 0, .ref m11, .ref m12, .ref m13, .int 0, .int 0, .ref m14, .int 0, .ref m15, .ref m16, .ref m17, .int 0, .int 0, .ref m18, .ref m19, .ref m20, .int 0, .ref m21]))] H := hP
  have hD : va_D A [(h0, .inr (7, [.int 0, .ref m1, .int 0, .int 0, .int 0, .int 1, .int 0, .int 0, .int 0, .ref m2, .ref m3, .ref m4, .int 0, .ref m5, .ref m6, .ref m7, .int 0, .ref m8, .ref m9, .ref m10, .int 1, .int 0, .ref m11, .ref m12, .ref m13, .int 0, .int 0, .ref m14, .int 0, .ref m15, .ref m16, .ref m17, .int 0, .int 0, .ref m18, .ref m19, .ref m20, .int 0, .ref m21]))] := hD
  refine W.widen (k := 0) (n := 0) (Nat.le_of_ble_eq_true rfl) (Nat.le_of_ble_eq_true rfl) ?_
  obtain rfl : r9 = (-1) := hw
  refine lv_istore_n (lv' := [(1, .int (-1)), (0, .ref h0)]) hx hb dX7_infer_8 rfl hl (by decide) rfl (fun ls hl => ?_)
  refine lv_aload_n hx hb dX7_infer_9 rfl (lv_at hl 1 rfl) ?_
  refine lv_aload_n hx hb dX7_infer_10 rfl (lv_at hl 1 rfl) ?_
  refine va_get (D := (dC, dI)) (ci := 7) (v := .int 1) (C := RX7) (T := TX7) (N := 39) hx hb hg i_X7 hown hK hP 0 rfl rfl 5 (by decide) (hg _ k_229) (fun _ h9 => h9) rfl dX7_infer_11 ?_
  refine lv_iconst (v := 0) hx hb dX7_infer_14 (by decide) ?_
  have hPc := hP.sub (ws' := [(h0, .inr (7, [.int 0, .ref m1, .int 0, .int 0, .int 0, .int 1, .int 0, .int 0, .int 0, .ref m2, .ref m3, .ref m4, .int 0, .ref m5, .ref m6, .ref m7, .int 0, .ref m8, .ref m9, .ref m10, .int 1, .int 0, .ref m11, .ref m12, .ref m13, .int 0, .int 0, .ref m14, .int 0, .ref m15, .ref m16, .ref m17, .int 0, .int 0, .ref m18, .ref m19, .ref m20, .int 0, .ref m21]))]) [0] rfl
  have hDc := hD.sub (ws' := [(h0, .inr (7, [.int 0, .ref m1, .int 0, .int 0, .int 0, .int 1, .int 0, .int 0, .int 0, .ref m2, .ref m3, .ref m4, .int 0, .ref m5, .ref m6, .ref m7, .int 0, .ref m8, .ref m9, .ref m10, .int 1, .int 0, .ref m11, .ref m12, .ref m13, .int 0, .int 0, .ref m14, .int 0, .ref m15, .ref m16, .ref m17, .int 0, .int 0, .ref m18, .ref m19, .ref m20, .int 0, .ref m21]))]) [0] (by decide) rfl
  have hFc := va_free (wc := [(h0, .inr (7, [.int 0, .ref m1, .int 0, .int 0, .int 0, .int 1, .int 0, .int 0, .int 0, .ref m2, .ref m3, .ref m4, .int 0, .ref m5, .ref m6, .ref m7, .int 0, .ref m8, .ref m9, .ref m10, .int 1, .int 0, .ref m11, .ref m12, .ref m13, .int 0, .int 0, .ref m14, .int 0, .ref m15, .ref m16, .ref m17, .int 0, .int 0, .ref m18, .ref m19, .ref m20, .int 0, .ref m21]))]) hD hS hA [0] rfl
  refine va_calli (va_runV (As := [.int 1, .int 0]) (rest := []) ⟨hx, hb, hml, hown, hg⟩ (c_thrA l dC dI cI cZ cL h0 (Array.size _) [.ref m1, .int 0, .int 0, .int 0, .int 1, .int 0, .int 0, .int 0, .ref m2, .ref m3, .ref m4, .int 0, .ref m5, .ref m6, .ref m7, .int 0, .ref m8, .ref m9, .ref m10, .int 1, .int 0, .ref m11, .ref m12, .ref m13, .int 0, .int 0, .ref m14, .int 0, .ref m15, .ref m16, .ref m17, .int 0, .int 0, .ref m18, .ref m19, .ref m20, .int 0, .ref m21]) (cwV 2 hg (gw_V k_260 k_261 k_262 k_245 g_yX7_throwing) rfl rfl rfl (by decide +kernel) ⟨(Nat.le_of_ble_eq_true rfl), (Nat.le_of_ble_eq_true rfl)⟩) ⟨hp_bl, va_recv hK hPc (ci := 7) (q0 := 0) rfl rfl, fun U hU hW => hp_ok hU hW hPc hK hDc⟩ rfl rfl hl.1 rfl (lv_room (Nat.le_of_ble_eq_true rfl)) dX7_infer_15 ⟨(Nat.le_of_ble_eq_true rfl), (Nat.le_of_ble_eq_true rfl)⟩) hS (fun q _ h => hFc q h) hFc (fun r9 u t H locs ht hvm hw hB hz1 hk1 hS => ?_)
  obtain ⟨hP1, hD1⟩ := hB
  rw [ht] at hP1
  obtain ⟨hP, hD⟩ := va_join (wr := []) (w1 := [(h0, .inr (7, [.int 1, .ref m1, .int 0, .int 0, .int 0, .int 1, .int 0, .int 0, .int 0, .ref m2, .ref m3, .ref m4, .int 0, .ref m5, .ref m6, .ref m7, .int 0, .ref m8, .ref m9, .ref m10, .int 1, .int 0, .ref m11, .ref m12, .ref m13, .int 0, .int 0, .ref m14, .int 0, .ref m15, .ref m16, .ref m17, .int 0, .int 0, .ref m18, .ref m19, .ref m20, .int 0, .ref m21]))]) hP hD [0] [] rfl rfl (by decide) (by decide) hk1 hFc hP1 hD1
  have hP : va_P (dC, dI) vwCl [(h0, .inr (7, [.int 1, .ref m1, .int 0, .int 0, .int 0, .int 1, .int 0, .int 0, .int 0, .ref m2, .ref m3, .ref m4, .int 0, .ref m5, .ref m6, .ref m7, .int 0, .ref m8, .ref m9, .ref m10, .int 1, .int 0, .ref m11, .ref m12, .ref m13, .int 0, .int 0, .ref m14, .int 0, .ref m15, .ref m16, .ref m17, .int 0, .int 0, .ref m18, .ref m19, .ref m20, .int 0, .ref m21]))] H := hP
  have hD : va_D A [(h0, .inr (7, [.int 1, .ref m1, .int 0, .int 0, .int 0, .int 1, .int 0, .int 0, .int 0, .ref m2, .ref m3, .ref m4, .int 0, .ref m5, .ref m6, .ref m7, .int 0, .ref m8, .ref m9, .ref m10, .int 1, .int 0, .ref m11, .ref m12, .ref m13, .int 0, .int 0, .ref m14, .int 0, .ref m15, .ref m16, .ref m17, .int 0, .int 0, .ref m18, .ref m19, .ref m20, .int 0, .ref m21]))] := hD
  refine W.widen (k := 0) (n := 0) (Nat.le_of_ble_eq_true rfl) (Nat.le_of_ble_eq_true rfl) ?_
  obtain rfl : r9 = 1 := hw
  refine lv_if_eq (tgt := 23) hx hb dX7_infer_18 (by decide) (fun c9 => absurd c9 (by decide)) (fun _ => ?_)
  refine lv_iconst (v := 0) hx hb dX7_infer_21 (by decide) ?_
  have hP9 := hP.sub (ws' := [(h0, .inr (7, [.int 1, .ref m1, .int 0, .int 0, .int 0, .int 1, .int 0, .int 0, .int 0, .ref m2, .ref m3, .ref m4, .int 0, .ref m5, .ref m6, .ref m7, .int 0, .ref m8, .ref m9, .ref m10, .int 1, .int 0, .ref m11, .ref m12, .ref m13, .int 0, .int 0, .ref m14, .int 0, .ref m15, .ref m16, .ref m17, .int 0, .int 0, .ref m18, .ref m19, .ref m20, .int 0, .ref m21]))]) [0] rfl
  have hD9 := hD.sub (ws' := [(h0, .inr (7, [.int 1, .ref m1, .int 0, .int 0, .int 0, .int 1, .int 0, .int 0, .int 0, .ref m2, .ref m3, .ref m4, .int 0, .ref m5, .ref m6, .ref m7, .int 0, .ref m8, .ref m9, .ref m10, .int 1, .int 0, .ref m11, .ref m12, .ref m13, .int 0, .int 0, .ref m14, .int 0, .ref m15, .ref m16, .ref m17, .int 0, .int 0, .ref m18, .ref m19, .ref m20, .int 0, .ref m21]))]) [0] (by decide) rfl
  refine W.widen (k := 0) (n := 0) (Nat.le_of_ble_eq_true rfl) (Nat.le_of_ble_eq_true rfl) ?_
  exact W.zret (ty := .boolean) (v := 0) hx hb hr (by decide) (fun t ht hW => ⟨⟨0, (), rfl, rfl, by rw [ht]; exact hP9, hD9⟩, hS.F ht⟩) hS.2.2 dX7_infer_22

set_option maxHeartbeats 4000000 in
set_option maxRecDepth 100000 in
/-- below() with nothing taped -/
theorem c_X7_below (l : Launch) (dC : Nat → ClassId) (dI : Nat → Nat → Nat) (cI cZ cL : ClassId) (h0 m8 m9 m10 : Nat) (sz : Nat) (m1 m2 m3 m4 m5 m6 m7 m11 m12 m13 m14 m15 m16 m17 m18 m19 m20 m21 : Nat) : Met l yX7_below (wd yX7_below cX7_below 3 (some .boolean)) ({ frames := 2, cells := 0, slots := 0, locals := 47 }) (va_Pc [.ref h0] (hp dC dI cI cZ cL sz [(h0, .inr (7, [.int 0, .ref m1, .int 0, .int 0, .int 0, .int 0, .int (-1), .int 0, .int 0, .ref m2, .ref m3, .ref m4, .int 0, .ref m5, .ref m6, .ref m7, .int 0, .ref m8, .ref m9, .ref m10, .int 0, .int 0, .ref m11, .ref m12, .ref m13, .int 0, .int 0, .ref m14, .int 0, .ref m15, .ref m16, .ref m17, .int 0, .int 0, .ref m18, .ref m19, .ref m20, .int 0, .ref m21])), (m8, .inl (cI, 130, .inl zI)), (m9, .inl (cI, 130, .inl zI)), (m10, .inl (cI, 130, .inl zI))])) (va_Qi (fun (r : Int32) (_ : Unit) => r = 0) (fun (_ : Unit) t => va_P (dC, dI) vwCl [(h0, .inr (7, [.int 1, .ref m1, .int 0, .int 0, .int 1, .int 1, .int 0, .int 0, .int 0, .ref m2, .ref m3, .ref m4, .int 0, .ref m5, .ref m6, .ref m7, .int 0, .ref m8, .ref m9, .ref m10, .int 1, .int 0, .ref m11, .ref m12, .ref m13, .int 0, .int 0, .ref m14, .int 0, .ref m15, .ref m16, .ref m17, .int 0, .int 0, .ref m18, .ref m19, .ref m20, .int 0, .ref m21]))] t.heap ∧ va_D (va_A [(h0, .inr (7, [.int 0, .ref m1, .int 0, .int 0, .int 0, .int 0, .int (-1), .int 0, .int 0, .ref m2, .ref m3, .ref m4, .int 0, .ref m5, .ref m6, .ref m7, .int 0, .ref m8, .ref m9, .ref m10, .int 0, .int 0, .ref m11, .ref m12, .ref m13, .int 0, .int 0, .ref m14, .int 0, .ref m15, .ref m16, .ref m17, .int 0, .int 0, .ref m18, .ref m19, .ref m20, .int 0, .ref m21])), (m8, .inl (cI, 130, .inl zI)), (m9, .inl (cI, 130, .inl zI)), (m10, .inl (cI, 130, .inl zI))] sz) [(h0, .inr (7, [.int 1, .ref m1, .int 0, .int 0, .int 1, .int 1, .int 0, .int 0, .int 0, .ref m2, .ref m3, .ref m4, .int 0, .ref m5, .ref m6, .ref m7, .int 0, .ref m8, .ref m9, .ref m10, .int 1, .int 0, .ref m11, .ref m12, .ref m13, .int 0, .int 0, .ref m14, .int 0, .ref m15, .ref m16, .ref m17, .int 0, .int 0, .ref m18, .ref m19, .ref m20, .int 0, .ref m21]))]) (va_A [(h0, .inr (7, [.int 0, .ref m1, .int 0, .int 0, .int 0, .int 0, .int (-1), .int 0, .int 0, .ref m2, .ref m3, .ref m4, .int 0, .ref m5, .ref m6, .ref m7, .int 0, .ref m8, .ref m9, .ref m10, .int 0, .int 0, .ref m11, .ref m12, .ref m13, .int 0, .int 0, .ref m14, .int 0, .ref m15, .ref m16, .ref m17, .int 0, .int 0, .ref m18, .ref m19, .ref m20, .int 0, .ref m21])), (m8, .inl (cI, 130, .inl zI)), (m9, .inl (cI, 130, .inl zI)), (m10, .inl (cI, 130, .inl zI))] sz)) 0 0 (va_A [(h0, .inr (7, [.int 0, .ref m1, .int 0, .int 0, .int 0, .int 0, .int (-1), .int 0, .int 0, .ref m2, .ref m3, .ref m4, .int 0, .ref m5, .ref m6, .ref m7, .int 0, .ref m8, .ref m9, .ref m10, .int 0, .int 0, .ref m11, .ref m12, .ref m13, .int 0, .int 0, .ref m14, .int 0, .ref m15, .ref m16, .ref m17, .int 0, .int 0, .ref m18, .ref m19, .ref m20, .int 0, .ref m21])), (m8, .inl (cI, 130, .inl zI)), (m9, .inl (cI, 130, .inl zI)), (m10, .inl (cI, 130, .inl zI))] sz) := by
  refine Met.ofW (cc := cX7_below) (maxL := 3) (ret := (some .boolean)) (by decide) rfl ?_
  intro p e s m args below meth c s₁ B hml hv
  obtain ⟨rfl, hsz, hP, hK, hD0⟩ := hv
  have hx := B.exec
  have hb := B.bytes
  have hr := B.returns
  have hw9 := atoms_spec (ws := (wd yX7_below cX7_below 3 (some .boolean))) B.pre
  have hg := gw_hts hw9
  have hown : s.vm.findClass RX7 = some m.cls := findClass_of_methodNamed B.named
  have hlocks := B.notSynchronized
  subst hsz
  have hD := hD0.self (sz := s.heap.size)
  generalize hAe : va_A [(h0, .inr (7, [.int 0, .ref m1, .int 0, .int 0, .int 0, .int 0, .int (-1), .int 0, .int 0, .ref m2, .ref m3, .ref m4, .int 0, .ref m5, .ref m6, .ref m7, .int 0, .ref m8, .ref m9, .ref m10, .int 0, .int 0, .ref m11, .ref m12, .ref m13, .int 0, .int 0, .ref m14, .int 0, .ref m15, .ref m16, .ref m17, .int 0, .int 0, .ref m18, .ref m19, .ref m20, .int 0, .ref m21])), (m8, .inl (cI, 130, .inl zI)), (m9, .inl (cI, 130, .inl zI)), (m10, .inl (cI, 130, .inl zI))] s.heap.size = A at hD ⊢
  have hA : ∀ q : Nat, s.heap.size ≤ q → A q := fun q h => by rw [← hAe]; exact Or.inr h
  have hS : va_S A s.heap s.heap [] := va_S.rf
  have hl := lv_entry ([.ref h0]) (n := 3) (Nat.le_of_ble_eq_true rfl)
  rw [lg_entry_eq]
  generalize (lg_sl ([.ref h0]) ++ List.replicate (3 - (lg_sl ([.ref h0])).length) Slot.unset).toArray = ls at hl ⊢
  have hl : lv_has ls 3 [(0, .ref h0)] := hl
  refine lv_aload_n hx hb dX7_below_0 rfl (lv_at hl 0 rfl) ?_
  have hPc := hP.sub (ws' := [(h0, .inr (7, [.int 0, .ref m1, .int 0, .int 0, .int 0, .int 0, .int (-1), .int 0, .int 0, .ref m2, .ref m3, .ref m4, .int 0, .ref m5, .ref m6, .ref m7, .int 0, .ref m8, .ref m9, .ref m10, .int 0, .int 0, .ref m11, .ref m12, .ref m13, .int 0, .int 0, .ref m14, .int 0, .ref m15, .ref m16, .ref m17, .int 0, .int 0, .ref m18, .ref m19, .ref m20, .int 0, .ref m21]))]) [0] rfl
  have hDc := hD.sub (ws' := [(h0, .inr (7, [.int 0, .ref m1, .int 0, .int 0, .int 0, .int 0, .int (-1), .int 0, .int 0, .ref m2, .ref m3, .ref m4, .int 0, .ref m5, .ref m6, .ref m7, .int 0, .ref m8, .ref m9, .ref m10, .int 0, .int 0, .ref m11, .ref m12, .ref m13, .int 0, .int 0, .ref m14, .int 0, .ref m15, .ref m16, .ref m17, .int 0, .int 0, .ref m18, .ref m19, .ref m20, .int 0, .ref m21]))]) [0] (by decide) rfl
  have hFc := va_free (wc := [(h0, .inr (7, [.int 0, .ref m1, .int 0, .int 0, .int 0, .int 0, .int (-1), .int 0, .int 0, .ref m2, .ref m3, .ref m4, .int 0, .ref m5, .ref m6, .ref m7, .int 0, .ref m8, .ref m9, .ref m10, .int 0, .int 0, .ref m11, .ref m12, .ref m13, .int 0, .int 0, .ref m14, .int 0, .ref m15, .ref m16, .ref m17, .int 0, .int 0, .ref m18, .ref m19, .ref m20, .int 0, .ref m21]))]) hD hS hA [0] rfl
  refine va_callv (va_runV (As := []) (rest := []) ⟨hx, hb, hml, hown, hg⟩ (c_X7_begin l dC dI cI cZ cL h0 (Array.size _) m1 m2 m3 m4 m5 m6 m7 m8 m9 m10 m11 m12 m13 m14 m15 m16 m17 m18 m19 m20 m21) (cwV 0 hg (gw_V k_254 k_255 k_256 k_245 g_yX7_begin) rfl rfl rfl (by decide +kernel) ⟨(Nat.le_of_ble_eq_true rfl), (Nat.le_of_ble_eq_true rfl)⟩) ⟨hp_bl, va_recv hK hPc (ci := 7) (q0 := 0) rfl rfl, fun U hU hW => hp_ok hU hW hPc hK hDc⟩ rfl rfl hl.1 rfl (lv_room (Nat.le_of_ble_eq_true rfl)) dX7_below_1 ⟨(Nat.le_of_ble_eq_true rfl), (Nat.le_of_ble_eq_true rfl)⟩) hS (fun q _ h => hFc q h) hFc (fun u t H locs ht hvm hw hB hz1 hk1 hS => ?_)
  obtain ⟨hP1, hD1⟩ := hB
  rw [ht] at hP1
  obtain ⟨hP, hD⟩ := va_join (wr := [(m8, .inl (cI, 130, .inl zI)), (m9, .inl (cI, 130, .inl zI)), (m10, .inl (cI, 130, .inl zI))]) (w1 := [(h0, .inr (7, [.int 0, .ref m1, .int 0, .int 0, .int 0, .int 0, .int (-1), .int 0, .int 0, .ref m2, .ref m3, .ref m4, .int 0, .ref m5, .ref m6, .ref m7, .int 0, .ref m8, .ref m9, .ref m10, .int 0, .int 0, .ref m11, .ref m12, .ref m13, .int 0, .int 0, .ref m14, .int 0, .ref m15, .ref m16, .ref m17, .int 0, .int 0, .ref m18, .ref m19, .ref m20, .int 0, .ref m21]))]) hP hD [0] [1, 2, 3] rfl rfl (by decide) (by decide) hk1 hFc hP1 hD1
  have hP : va_P (dC, dI) vwCl [(m8, .inl (cI, 130, .inl zI)), (m9, .inl (cI, 130, .inl zI)), (m10, .inl (cI, 130, .inl zI)), (h0, .inr (7, [.int 0, .ref m1, .int 0, .int 0, .int 0, .int 0, .int (-1), .int 0, .int 0, .ref m2, .ref m3, .ref m4, .int 0, .ref m5, .ref m6, .ref m7, .int 0, .ref m8, .ref m9, .ref m10, .int 0, .int 0, .ref m11, .ref m12, .ref m13, .int 0, .int 0, .ref m14, .int 0, .ref m15, .ref m16, .ref m17, .int 0, .int 0, .ref m18, .ref m19, .ref m20, .int 0, .ref m21]))] H := hP
  have hD : va_D A [(m8, .inl (cI, 130, .inl zI)), (m9, .inl (cI, 130, .inl zI)), (m10, .inl (cI, 130, .inl zI)), (h0, .inr (7, [.int 0, .ref m1, .int 0, .int 0, .int 0, .int 0, .int (-1), .int 0, .int 0, .ref m2, .ref m3, .ref m4, .int 0, .ref m5, .ref m6, .ref m7, .int 0, .ref m8, .ref m9, .ref m10, .int 0, .int 0, .ref m11, .ref m12, .ref m13, .int 0, .int 0, .ref m14, .int 0, .ref m15, .ref m16, .ref m17, .int 0, .int 0, .ref m18, .ref m19, .ref m20, .int 0, .ref m21]))] := hD
  refine W.widen (k := 0) (n := 0) (Nat.le_of_ble_eq_true rfl) (Nat.le_of_ble_eq_true rfl) ?_
  refine lv_aload_n hx hb dX7_below_4 rfl (lv_at hl 0 rfl) ?_
  have hPc := hP.sub (ws' := [(h0, .inr (7, [.int 0, .ref m1, .int 0, .int 0, .int 0, .int 0, .int (-1), .int 0, .int 0, .ref m2, .ref m3, .ref m4, .int 0, .ref m5, .ref m6, .ref m7, .int 0, .ref m8, .ref m9, .ref m10, .int 0, .int 0, .ref m11, .ref m12, .ref m13, .int 0, .int 0, .ref m14, .int 0, .ref m15, .ref m16, .ref m17, .int 0, .int 0, .ref m18, .ref m19, .ref m20, .int 0, .ref m21])), (m8, .inl (cI, 130, .inl zI)), (m9, .inl (cI, 130, .inl zI)), (m10, .inl (cI, 130, .inl zI))]) [3, 0, 1, 2] rfl
  have hDc := hD.sub (ws' := [(h0, .inr (7, [.int 0, .ref m1, .int 0, .int 0, .int 0, .int 0, .int (-1), .int 0, .int 0, .ref m2, .ref m3, .ref m4, .int 0, .ref m5, .ref m6, .ref m7, .int 0, .ref m8, .ref m9, .ref m10, .int 0, .int 0, .ref m11, .ref m12, .ref m13, .int 0, .int 0, .ref m14, .int 0, .ref m15, .ref m16, .ref m17, .int 0, .int 0, .ref m18, .ref m19, .ref m20, .int 0, .ref m21])), (m8, .inl (cI, 130, .inl zI)), (m9, .inl (cI, 130, .inl zI)), (m10, .inl (cI, 130, .inl zI))]) [3, 0, 1, 2] (by decide) rfl
  have hFc := va_free (wc := [(h0, .inr (7, [.int 0, .ref m1, .int 0, .int 0, .int 0, .int 0, .int (-1), .int 0, .int 0, .ref m2, .ref m3, .ref m4, .int 0, .ref m5, .ref m6, .ref m7, .int 0, .ref m8, .ref m9, .ref m10, .int 0, .int 0, .ref m11, .ref m12, .ref m13, .int 0, .int 0, .ref m14, .int 0, .ref m15, .ref m16, .ref m17, .int 0, .int 0, .ref m18, .ref m19, .ref m20, .int 0, .ref m21])), (m8, .inl (cI, 130, .inl zI)), (m9, .inl (cI, 130, .inl zI)), (m10, .inl (cI, 130, .inl zI))]) hD hS hA [3, 0, 1, 2] rfl
  refine va_calli (va_runV (As := []) (rest := []) ⟨hx, hb, hml, hown, hg⟩ (c_X7_readType l dC dI cI cZ cL h0 m8 m9 m10 (Array.size _) m1 m2 m3 m4 m5 m6 m7 m11 m12 m13 m14 m15 m16 m17 m18 m19 m20 m21) (cwV 0 hg (gw_V k_263 k_264 k_265 k_245 g_yX7_readType) rfl rfl rfl (by decide +kernel) ⟨(Nat.le_of_ble_eq_true rfl), (Nat.le_of_ble_eq_true rfl)⟩) ⟨hp_bl, va_recv hK hPc (ci := 7) (q0 := 0) rfl rfl, fun U hU hW => hp_ok hU hW hPc hK hDc⟩ rfl rfl hl.1 rfl (lv_room (Nat.le_of_ble_eq_true rfl)) dX7_below_5 ⟨(Nat.le_of_ble_eq_true rfl), (Nat.le_of_ble_eq_true rfl)⟩) hS (fun q _ h => hFc q h) hFc (fun r9 u t H locs ht hvm hw hB hz1 hk1 hS => ?_)
  obtain ⟨hP1, hD1⟩ := hB
  rw [ht] at hP1
  obtain ⟨hP, hD⟩ := va_join (wr := []) (w1 := [(h0, .inr (7, [.int 0, .ref m1, .int 0, .int 0, .int 0, .int 1, .int 0, .int 0, .int 0, .ref m2, .ref m3, .ref m4, .int 0, .ref m5, .ref m6, .ref m7, .int 0, .ref m8, .ref m9, .ref m10, .int 1, .int 0, .ref m11, .ref m12, .ref m13, .int 0, .int 0, .ref m14, .int 0, .ref m15, .ref m16, .ref m17, .int 0, .int 0, .ref m18, .ref m19, .ref m20, .int 0, .ref m21]))]) hP hD [3, 0, 1, 2] [] rfl rfl (by decide) (by decide) hk1 hFc hP1 hD1
  have hP : va_P (dC, dI) vwCl [(h0, .inr (7, [.int 0, .ref m1, .int 0, .int 0, .int 0, .int 1, .int 0, .int 0, .int 0, .ref m2, .ref m3, .ref m4, .int 0, .ref m5, .ref m6, .ref m7, .int 0, .ref m8, .ref m9, .ref m10, .int 1, .int 0, .ref m11, .ref m12, .ref m13, .int 0, .int 0, .ref m14, .int 0, .ref m15, .ref m16, .ref m17, .int 0, .int 0, .ref m18, .ref m19, .ref m20, .int 0, .ref m21]))] H := hP
  have hD : va_D A [(h0, .inr (7, [.int 0, .ref m1, .int 0, .int 0, .int 0, .int 1, .int 0, .int 0, .int 0, .ref m2, .ref m3, .ref m4, .int 0, .ref m5, .ref m6, .ref m7, .int 0, .ref m8, .ref m9, .ref m10, .int 1, .int 0, .ref m11, .ref m12, .ref m13, .int 0, .int 0, .ref m14, .int 0, .ref m15, .ref m16, .ref m17, .int 0, .int 0, .ref m18, .ref m19, .ref m20, .int 0, .ref m21]))] := hD
  refine W.widen (k := 0) (n := 0) (Nat.le_of_ble_eq_true rfl) (Nat.le_of_ble_eq_true rfl) ?_
  obtain rfl : r9 = (-1) := hw
  refine lv_istore_n (lv' := [(1, .int (-1)), (0, .ref h0)]) hx hb dX7_below_8 rfl hl (by decide) rfl (fun ls hl => ?_)
  refine lv_aload_n hx hb dX7_below_9 rfl (lv_at hl 1 rfl) ?_
  refine va_get (D := (dC, dI)) (ci := 7) (v := .int 1) (C := RX7) (T := TX7) (N := 39) hx hb hg i_X7 hown hK hP 0 rfl rfl 5 (by decide) (hg _ k_229) (fun _ h9 => h9) rfl dX7_below_10 ?_
  refine lv_if_ne (tgt := 29) hx hb dX7_below_13 (by decide) (fun _ => ?_) (fun c9 => absurd c9 (by decide))
  refine lv_aload_n hx hb dX7_below_29 rfl (lv_at hl 1 rfl) ?_
  refine lv_dup hx hb dX7_below_30 rfl ?_
  refine va_get (D := (dC, dI)) (ci := 7) (v := .int 0) (C := RX7) (T := TX7) (N := 39) hx hb hg i_X7 hown hK hP 0 rfl rfl 4 (by decide) (hg _ k_227) (fun _ h9 => h9) rfl dX7_below_31 ?_
  refine lv_iconst (v := 1) hx hb dX7_below_34 (by decide) ?_
  refine lv_iadd hx hb dX7_below_35 ?_
  refine lv_topi (fun z1 ez1 => ?_)
  obtain rfl : z1 = 1 := ez1.trans (by decide)
  refine va_put (D := (dC, dI)) (ci := 7) (v := .int 1) (ty := .int) (C := RX7) (T := TX7) (N := 39) hx hb hg i_X7 tyX7 tyX7_ok nmX7 hown hK hP hD hS 0 rfl rfl 4 (by decide) (hg _ k_227) (fun _ h9 => h9) rfl (by decide +kernel) rfl rfl (Nat.le_of_ble_eq_true rfl) dX7_below_36 (fun H locs hP hD hS => ?_)
  have hP : va_P (dC, dI) vwCl [(h0, .inr (7, [.int 0, .ref m1, .int 0, .int 0, .int 1, .int 1, .int 0, .int 0, .int 0, .ref m2, .ref m3, .ref m4, .int 0, .ref m5, .ref m6, .ref m7, .int 0, .ref m8, .ref m9, .ref m10, .int 1, .int 0, .ref m11, .ref m12, .ref m13, .int 0, .int 0, .ref m14, .int 0, .ref m15, .ref m16, .ref m17, .int 0, .int 0, .ref m18, .ref m19, .ref m20, .int 0, .ref m21]))] H := hP
  have hD : va_D A [(h0, .inr (7, [.int 0, .ref m1, .int 0, .int 0, .int 1, .int 1, .int 0, .int 0, .int 0, .ref m2, .ref m3, .ref m4, .int 0, .ref m5, .ref m6, .ref m7, .int 0, .ref m8, .ref m9, .ref m10, .int 1, .int 0, .ref m11, .ref m12, .ref m13, .int 0, .int 0, .ref m14, .int 0, .ref m15, .ref m16, .ref m17, .int 0, .int 0, .ref m18, .ref m19, .ref m20, .int 0, .ref m21]))] := hD
  refine lv_aload_n hx hb dX7_below_39 rfl (lv_at hl 1 rfl) ?_
  refine va_get (D := (dC, dI)) (ci := 7) (v := .int 1) (C := RX7) (T := TX7) (N := 39) hx hb hg i_X7 hown hK hP 0 rfl rfl 5 (by decide) (hg _ k_229) (fun _ h9 => h9) rfl dX7_below_40 ?_
  refine lv_if_eq (tgt := 50) hx hb dX7_below_43 (by decide) (fun c9 => absurd c9 (by decide)) (fun _ => ?_)
  refine lv_iconst (v := 0) hx hb dX7_below_46 (by decide) ?_
  refine lv_goto (tgt := 54) hx hb dX7_below_47 (by decide) ?_
  refine lv_istore_n (lv' := [(2, .int 0), (1, .int (-1)), (0, .ref h0)]) hx hb dX7_below_54 rfl hl (by decide) rfl (fun ls hl => ?_)
  refine lv_aload_n hx hb dX7_below_55 rfl (lv_at hl 2 rfl) ?_
  refine va_get (D := (dC, dI)) (ci := 7) (v := .int 1) (C := RX7) (T := TX7) (N := 39) hx hb hg i_X7 hown hK hP 0 rfl rfl 5 (by decide) (hg _ k_229) (fun _ h9 => h9) rfl dX7_below_56 ?_
  refine lv_if_ne (tgt := 74) hx hb dX7_below_59 (by decide) (fun _ => ?_) (fun c9 => absurd c9 (by decide))
  refine lv_aload_n hx hb dX7_below_74 rfl (lv_at hl 2 rfl) ?_
  refine lv_aload_n hx hb dX7_below_75 rfl (lv_at hl 2 rfl) ?_
  refine va_get (D := (dC, dI)) (ci := 7) (v := .int 1) (C := RX7) (T := TX7) (N := 39) hx hb hg i_X7 hown hK hP 0 rfl rfl 5 (by decide) (hg _ k_229) (fun _ h9 => h9) rfl dX7_below_76 ?_
  refine lv_iconst (v := 0) hx hb dX7_below_79 (by decide) ?_
  have hPc := hP.sub (ws' := [(h0, .inr (7, [.int 0, .ref m1, .int 0, .int 0, .int 1, .int 1, .int 0, .int 0, .int 0, .ref m2, .ref m3, .ref m4, .int 0, .ref m5, .ref m6, .ref m7, .int 0, .ref m8, .ref m9, .ref m10, .int 1, .int 0, .ref m11, .ref m12, .ref m13, .int 0, .int 0, .ref m14, .int 0, .ref m15, .ref m16, .ref m17, .int 0, .int 0, .ref m18, .ref m19, .ref m20, .int 0, .ref m21]))]) [0] rfl
  have hDc := hD.sub (ws' := [(h0, .inr (7, [.int 0, .ref m1, .int 0, .int 0, .int 1, .int 1, .int 0, .int 0, .int 0, .ref m2, .ref m3, .ref m4, .int 0, .ref m5, .ref m6, .ref m7, .int 0, .ref m8, .ref m9, .ref m10, .int 1, .int 0, .ref m11, .ref m12, .ref m13, .int 0, .int 0, .ref m14, .int 0, .ref m15, .ref m16, .ref m17, .int 0, .int 0, .ref m18, .ref m19, .ref m20, .int 0, .ref m21]))]) [0] (by decide) rfl
  have hFc := va_free (wc := [(h0, .inr (7, [.int 0, .ref m1, .int 0, .int 0, .int 1, .int 1, .int 0, .int 0, .int 0, .ref m2, .ref m3, .ref m4, .int 0, .ref m5, .ref m6, .ref m7, .int 0, .ref m8, .ref m9, .ref m10, .int 1, .int 0, .ref m11, .ref m12, .ref m13, .int 0, .int 0, .ref m14, .int 0, .ref m15, .ref m16, .ref m17, .int 0, .int 0, .ref m18, .ref m19, .ref m20, .int 0, .ref m21]))]) hD hS hA [0] rfl
  refine va_calli (va_runV (As := [.int 1, .int 0]) (rest := []) ⟨hx, hb, hml, hown, hg⟩ (c_thrA l dC dI cI cZ cL h0 (Array.size _) [.ref m1, .int 0, .int 0, .int 1, .int 1, .int 0, .int 0, .int 0, .ref m2, .ref m3, .ref m4, .int 0, .ref m5, .ref m6, .ref m7, .int 0, .ref m8, .ref m9, .ref m10, .int 1, .int 0, .ref m11, .ref m12, .ref m13, .int 0, .int 0, .ref m14, .int 0, .ref m15, .ref m16, .ref m17, .int 0, .int 0, .ref m18, .ref m19, .ref m20, .int 0, .ref m21]) (cwV 2 hg (gw_V k_260 k_261 k_262 k_245 g_yX7_throwing) rfl rfl rfl (by decide +kernel) ⟨(Nat.le_of_ble_eq_true rfl), (Nat.le_of_ble_eq_true rfl)⟩) ⟨hp_bl, va_recv hK hPc (ci := 7) (q0 := 0) rfl rfl, fun U hU hW => hp_ok hU hW hPc hK hDc⟩ rfl rfl hl.1 rfl (lv_room (Nat.le_of_ble_eq_true rfl)) dX7_below_80 ⟨(Nat.le_of_ble_eq_true rfl), (Nat.le_of_ble_eq_true rfl)⟩) hS (fun q _ h => hFc q h) hFc (fun r9 u t H locs ht hvm hw hB hz1 hk1 hS => ?_)
  obtain ⟨hP1, hD1⟩ := hB
  rw [ht] at hP1
  obtain ⟨hP, hD⟩ := va_join (wr := []) (w1 := [(h0, .inr (7, [.int 1, .ref m1, .int 0, .int 0, .int 1, .int 1, .int 0, .int 0, .int 0, .ref m2, .ref m3, .ref m4, .int 0, .ref m5, .ref m6, .ref m7, .int 0, .ref m8, .ref m9, .ref m10, .int 1, .int 0, .ref m11, .ref m12, .ref m13, .int 0, .int 0, .ref m14, .int 0, .ref m15, .ref m16, .ref m17, .int 0, .int 0, .ref m18, .ref m19, .ref m20, .int 0, .ref m21]))]) hP hD [0] [] rfl rfl (by decide) (by decide) hk1 hFc hP1 hD1
  have hP : va_P (dC, dI) vwCl [(h0, .inr (7, [.int 1, .ref m1, .int 0, .int 0, .int 1, .int 1, .int 0, .int 0, .int 0, .ref m2, .ref m3, .ref m4, .int 0, .ref m5, .ref m6, .ref m7, .int 0, .ref m8, .ref m9, .ref m10, .int 1, .int 0, .ref m11, .ref m12, .ref m13, .int 0, .int 0, .ref m14, .int 0, .ref m15, .ref m16, .ref m17, .int 0, .int 0, .ref m18, .ref m19, .ref m20, .int 0, .ref m21]))] H := hP
  have hD : va_D A [(h0, .inr (7, [.int 1, .ref m1, .int 0, .int 0, .int 1, .int 1, .int 0, .int 0, .int 0, .ref m2, .ref m3, .ref m4, .int 0, .ref m5, .ref m6, .ref m7, .int 0, .ref m8, .ref m9, .ref m10, .int 1, .int 0, .ref m11, .ref m12, .ref m13, .int 0, .int 0, .ref m14, .int 0, .ref m15, .ref m16, .ref m17, .int 0, .int 0, .ref m18, .ref m19, .ref m20, .int 0, .ref m21]))] := hD
  refine W.widen (k := 0) (n := 0) (Nat.le_of_ble_eq_true rfl) (Nat.le_of_ble_eq_true rfl) ?_
  obtain rfl : r9 = 1 := hw
  refine lv_if_eq (tgt := 88) hx hb dX7_below_83 (by decide) (fun c9 => absurd c9 (by decide)) (fun _ => ?_)
  refine lv_iconst (v := 0) hx hb dX7_below_86 (by decide) ?_
  have hP9 := hP.sub (ws' := [(h0, .inr (7, [.int 1, .ref m1, .int 0, .int 0, .int 1, .int 1, .int 0, .int 0, .int 0, .ref m2, .ref m3, .ref m4, .int 0, .ref m5, .ref m6, .ref m7, .int 0, .ref m8, .ref m9, .ref m10, .int 1, .int 0, .ref m11, .ref m12, .ref m13, .int 0, .int 0, .ref m14, .int 0, .ref m15, .ref m16, .ref m17, .int 0, .int 0, .ref m18, .ref m19, .ref m20, .int 0, .ref m21]))]) [0] rfl
  have hD9 := hD.sub (ws' := [(h0, .inr (7, [.int 1, .ref m1, .int 0, .int 0, .int 1, .int 1, .int 0, .int 0, .int 0, .ref m2, .ref m3, .ref m4, .int 0, .ref m5, .ref m6, .ref m7, .int 0, .ref m8, .ref m9, .ref m10, .int 1, .int 0, .ref m11, .ref m12, .ref m13, .int 0, .int 0, .ref m14, .int 0, .ref m15, .ref m16, .ref m17, .int 0, .int 0, .ref m18, .ref m19, .ref m20, .int 0, .ref m21]))]) [0] (by decide) rfl
  refine W.widen (k := 0) (n := 0) (Nat.le_of_ble_eq_true rfl) (Nat.le_of_ble_eq_true rfl) ?_
  exact W.zret (ty := .boolean) (v := 0) hx hb hr (by decide) (fun t ht hW => ⟨⟨0, (), rfl, rfl, by rw [ht]; exact hP9, hD9⟩, hS.F ht⟩) hS.2.2 dX7_below_87

set_option maxHeartbeats 4000000 in
set_option maxRecDepth 100000 in
/-- place() of a new reference -/
theorem c_X7_place (l : Launch) (dC : Nat → ClassId) (dI : Nat → Nat → Nat) (cI cZ cL : ClassId) (h0 : Nat) (sz : Nat) (m1 m2 m3 m4 m5 m6 m7 m8 m9 m10 m11 m12 m13 m14 m15 m16 m17 m18 m19 m20 m21 : Nat) : Met l yX7_place (wd yX7_place cX7_place 1 (some .int)) ({ frames := 0, cells := 0, slots := 0, locals := 0 }) (va_Pc [.ref h0] (hp dC dI cI cZ cL sz [(h0, .inr (7, [.int 0, .ref m1, .int 0, .int 0, .int 0, .int 0, .int (-1), .int 0, .int 0, .ref m2, .ref m3, .ref m4, .int 0, .ref m5, .ref m6, .ref m7, .int 0, .ref m8, .ref m9, .ref m10, .int 0, .int 0, .ref m11, .ref m12, .ref m13, .int 0, .int 0, .ref m14, .int 0, .ref m15, .ref m16, .ref m17, .int 0, .int 0, .ref m18, .ref m19, .ref m20, .int 0, .ref m21]))])) (va_Qi (fun (r : Int32) (_ : Unit) => r = -1) (fun (_ : Unit) t => va_P (dC, dI) vwCl [] t.heap ∧ va_D (va_A [(h0, .inr (7, [.int 0, .ref m1, .int 0, .int 0, .int 0, .int 0, .int (-1), .int 0, .int 0, .ref m2, .ref m3, .ref m4, .int 0, .ref m5, .ref m6, .ref m7, .int 0, .ref m8, .ref m9, .ref m10, .int 0, .int 0, .ref m11, .ref m12, .ref m13, .int 0, .int 0, .ref m14, .int 0, .ref m15, .ref m16, .ref m17, .int 0, .int 0, .ref m18, .ref m19, .ref m20, .int 0, .ref m21]))] sz) []) (va_A [(h0, .inr (7, [.int 0, .ref m1, .int 0, .int 0, .int 0, .int 0, .int (-1), .int 0, .int 0, .ref m2, .ref m3, .ref m4, .int 0, .ref m5, .ref m6, .ref m7, .int 0, .ref m8, .ref m9, .ref m10, .int 0, .int 0, .ref m11, .ref m12, .ref m13, .int 0, .int 0, .ref m14, .int 0, .ref m15, .ref m16, .ref m17, .int 0, .int 0, .ref m18, .ref m19, .ref m20, .int 0, .ref m21]))] sz)) 0 0 (va_A [(h0, .inr (7, [.int 0, .ref m1, .int 0, .int 0, .int 0, .int 0, .int (-1), .int 0, .int 0, .ref m2, .ref m3, .ref m4, .int 0, .ref m5, .ref m6, .ref m7, .int 0, .ref m8, .ref m9, .ref m10, .int 0, .int 0, .ref m11, .ref m12, .ref m13, .int 0, .int 0, .ref m14, .int 0, .ref m15, .ref m16, .ref m17, .int 0, .int 0, .ref m18, .ref m19, .ref m20, .int 0, .ref m21]))] sz) := by
  refine Met.ofW (cc := cX7_place) (maxL := 1) (ret := (some .int)) (by decide) rfl ?_
  intro p e s m args below meth c s₁ B hml hv
  obtain ⟨rfl, hsz, hP, hK, hD0⟩ := hv
  have hx := B.exec
  have hb := B.bytes
  have hr := B.returns
  have hw9 := atoms_spec (ws := (wd yX7_place cX7_place 1 (some .int))) B.pre
  have hg := gw_hts hw9
  have hown : s.vm.findClass RX7 = some m.cls := findClass_of_methodNamed B.named
  have hlocks := B.notSynchronized
  subst hsz
  have hD := hD0.self (sz := s.heap.size)
  generalize hAe : va_A [(h0, .inr (7, [.int 0, .ref m1, .int 0, .int 0, .int 0, .int 0, .int (-1), .int 0, .int 0, .ref m2, .ref m3, .ref m4, .int 0, .ref m5, .ref m6, .ref m7, .int 0, .ref m8, .ref m9, .ref m10, .int 0, .int 0, .ref m11, .ref m12, .ref m13, .int 0, .int 0, .ref m14, .int 0, .ref m15, .ref m16, .ref m17, .int 0, .int 0, .ref m18, .ref m19, .ref m20, .int 0, .ref m21]))] s.heap.size = A at hD ⊢
  have hA : ∀ q : Nat, s.heap.size ≤ q → A q := fun q h => by rw [← hAe]; exact Or.inr h
  have hS : va_S A s.heap s.heap [] := va_S.rf
  have hl := lv_entry ([.ref h0]) (n := 1) (Nat.le_of_ble_eq_true rfl)
  rw [lg_entry_eq]
  generalize (lg_sl ([.ref h0]) ++ List.replicate (1 - (lg_sl ([.ref h0])).length) Slot.unset).toArray = ls at hl ⊢
  have hl : lv_has ls 1 [(0, .ref h0)] := hl
  refine lv_aload_n hx hb dX7_place_0 rfl (lv_at hl 0 rfl) ?_
  refine lv_iconst (v := 0) hx hb dX7_place_1 (by decide) ?_
  refine va_put (D := (dC, dI)) (ci := 7) (v := .int 0) (ty := .int) (C := RX7) (T := TX7) (N := 39) hx hb hg i_X7 tyX7 tyX7_ok nmX7 hown hK hP hD hS 0 rfl rfl 0 (by decide) (hg _ k_226) (fun _ h9 => h9) rfl (by decide +kernel) rfl rfl (Nat.le_of_ble_eq_true rfl) dX7_place_2 (fun H locs hP hD hS => ?_)
  have hP : va_P (dC, dI) vwCl [(h0, .inr (7, [.int 0, .ref m1, .int 0, .int 0, .int 0, .int 0, .int (-1), .int 0, .int 0, .ref m2, .ref m3, .ref m4, .int 0, .ref m5, .ref m6, .ref m7, .int 0, .ref m8, .ref m9, .ref m10, .int 0, .int 0, .ref m11, .ref m12, .ref m13, .int 0, .int 0, .ref m14, .int 0, .ref m15, .ref m16, .ref m17, .int 0, .int 0, .ref m18, .ref m19, .ref m20, .int 0, .ref m21]))] H := hP
  have hD : va_D A [(h0, .inr (7, [.int 0, .ref m1, .int 0, .int 0, .int 0, .int 0, .int (-1), .int 0, .int 0, .ref m2, .ref m3, .ref m4, .int 0, .ref m5, .ref m6, .ref m7, .int 0, .ref m8, .ref m9, .ref m10, .int 0, .int 0, .ref m11, .ref m12, .ref m13, .int 0, .int 0, .ref m14, .int 0, .ref m15, .ref m16, .ref m17, .int 0, .int 0, .ref m18, .ref m19, .ref m20, .int 0, .ref m21]))] := hD
  refine lv_aload_n hx hb dX7_place_5 rfl (lv_at hl 0 rfl) ?_
  refine va_get (D := (dC, dI)) (ci := 7) (v := .int (-1)) (C := RX7) (T := TX7) (N := 39) hx hb hg i_X7 hown hK hP 0 rfl rfl 6 (by decide) (hg _ k_99) (fun _ h9 => h9) rfl dX7_place_6 ?_
  have hP9 := hP.sub (ws' := []) [] rfl
  have hD9 := hD.sub (ws' := []) [] (by decide) rfl
  refine W.widen (k := 0) (n := 0) (Nat.le_of_ble_eq_true rfl) (Nat.le_of_ble_eq_true rfl) ?_
  exact W.iret (v := (-1)) hx hb hr (fun t ht hW => ⟨⟨(-1), (), rfl, rfl, by rw [ht]; exact hP9, hD9⟩, hS.F ht⟩) hS.2.2 dX7_place_9

set_option maxHeartbeats 4000000 in
set_option maxRecDepth 100000 in
/-- size() of a new reference -/
theorem c_X7_size (l : Launch) (dC : Nat → ClassId) (dI : Nat → Nat → Nat) (cI cZ cL : ClassId) (h0 : Nat) (sz : Nat) (m1 m2 m3 m4 m5 m6 m7 m8 m9 m10 m11 m12 m13 m14 m15 m16 m17 m18 m19 m20 m21 : Nat) : Met l yX7_size (wd yX7_size cX7_size 1 (some .int)) ({ frames := 0, cells := 0, slots := 0, locals := 0 }) (va_Pc [.ref h0] (hp dC dI cI cZ cL sz [(h0, .inr (7, [.int 0, .ref m1, .int 0, .int 0, .int 0, .int 0, .int (-1), .int 0, .int 0, .ref m2, .ref m3, .ref m4, .int 0, .ref m5, .ref m6, .ref m7, .int 0, .ref m8, .ref m9, .ref m10, .int 0, .int 0, .ref m11, .ref m12, .ref m13, .int 0, .int 0, .ref m14, .int 0, .ref m15, .ref m16, .ref m17, .int 0, .int 0, .ref m18, .ref m19, .ref m20, .int 0, .ref m21]))])) (va_Qi (fun (r : Int32) (_ : Unit) => r = 0) (fun (_ : Unit) t => va_P (dC, dI) vwCl [] t.heap ∧ va_D (va_A [(h0, .inr (7, [.int 0, .ref m1, .int 0, .int 0, .int 0, .int 0, .int (-1), .int 0, .int 0, .ref m2, .ref m3, .ref m4, .int 0, .ref m5, .ref m6, .ref m7, .int 0, .ref m8, .ref m9, .ref m10, .int 0, .int 0, .ref m11, .ref m12, .ref m13, .int 0, .int 0, .ref m14, .int 0, .ref m15, .ref m16, .ref m17, .int 0, .int 0, .ref m18, .ref m19, .ref m20, .int 0, .ref m21]))] sz) []) (va_A [(h0, .inr (7, [.int 0, .ref m1, .int 0, .int 0, .int 0, .int 0, .int (-1), .int 0, .int 0, .ref m2, .ref m3, .ref m4, .int 0, .ref m5, .ref m6, .ref m7, .int 0, .ref m8, .ref m9, .ref m10, .int 0, .int 0, .ref m11, .ref m12, .ref m13, .int 0, .int 0, .ref m14, .int 0, .ref m15, .ref m16, .ref m17, .int 0, .int 0, .ref m18, .ref m19, .ref m20, .int 0, .ref m21]))] sz)) 0 0 (va_A [(h0, .inr (7, [.int 0, .ref m1, .int 0, .int 0, .int 0, .int 0, .int (-1), .int 0, .int 0, .ref m2, .ref m3, .ref m4, .int 0, .ref m5, .ref m6, .ref m7, .int 0, .ref m8, .ref m9, .ref m10, .int 0, .int 0, .ref m11, .ref m12, .ref m13, .int 0, .int 0, .ref m14, .int 0, .ref m15, .ref m16, .ref m17, .int 0, .int 0, .ref m18, .ref m19, .ref m20, .int 0, .ref m21]))] sz) := by
  refine Met.ofW (cc := cX7_size) (maxL := 1) (ret := (some .int)) (by decide) rfl ?_
  intro p e s m args below meth c s₁ B hml hv
  obtain ⟨rfl, hsz, hP, hK, hD0⟩ := hv
  have hx := B.exec
  have hb := B.bytes
  have hr := B.returns
  have hw9 := atoms_spec (ws := (wd yX7_size cX7_size 1 (some .int))) B.pre
  have hg := gw_hts hw9
  have hown : s.vm.findClass RX7 = some m.cls := findClass_of_methodNamed B.named
  have hlocks := B.notSynchronized
  subst hsz
  have hD := hD0.self (sz := s.heap.size)
  generalize hAe : va_A [(h0, .inr (7, [.int 0, .ref m1, .int 0, .int 0, .int 0, .int 0, .int (-1), .int 0, .int 0, .ref m2, .ref m3, .ref m4, .int 0, .ref m5, .ref m6, .ref m7, .int 0, .ref m8, .ref m9, .ref m10, .int 0, .int 0, .ref m11, .ref m12, .ref m13, .int 0, .int 0, .ref m14, .int 0, .ref m15, .ref m16, .ref m17, .int 0, .int 0, .ref m18, .ref m19, .ref m20, .int 0, .ref m21]))] s.heap.size = A at hD ⊢
  have hA : ∀ q : Nat, s.heap.size ≤ q → A q := fun q h => by rw [← hAe]; exact Or.inr h
  have hS : va_S A s.heap s.heap [] := va_S.rf
  have hl := lv_entry ([.ref h0]) (n := 1) (Nat.le_of_ble_eq_true rfl)
  rw [lg_entry_eq]
  generalize (lg_sl ([.ref h0]) ++ List.replicate (1 - (lg_sl ([.ref h0])).length) Slot.unset).toArray = ls at hl ⊢
  have hl : lv_has ls 1 [(0, .ref h0)] := hl
  refine lv_aload_n hx hb dX7_size_0 rfl (lv_at hl 0 rfl) ?_
  refine lv_iconst (v := 0) hx hb dX7_size_1 (by decide) ?_
  refine va_put (D := (dC, dI)) (ci := 7) (v := .int 0) (ty := .int) (C := RX7) (T := TX7) (N := 39) hx hb hg i_X7 tyX7 tyX7_ok nmX7 hown hK hP hD hS 0 rfl rfl 0 (by decide) (hg _ k_226) (fun _ h9 => h9) rfl (by decide +kernel) rfl rfl (Nat.le_of_ble_eq_true rfl) dX7_size_2 (fun H locs hP hD hS => ?_)
  have hP : va_P (dC, dI) vwCl [(h0, .inr (7, [.int 0, .ref m1, .int 0, .int 0, .int 0, .int 0, .int (-1), .int 0, .int 0, .ref m2, .ref m3, .ref m4, .int 0, .ref m5, .ref m6, .ref m7, .int 0, .ref m8, .ref m9, .ref m10, .int 0, .int 0, .ref m11, .ref m12, .ref m13, .int 0, .int 0, .ref m14, .int 0, .ref m15, .ref m16, .ref m17, .int 0, .int 0, .ref m18, .ref m19, .ref m20, .int 0, .ref m21]))] H := hP
  have hD : va_D A [(h0, .inr (7, [.int 0, .ref m1, .int 0, .int 0, .int 0, .int 0, .int (-1), .int 0, .int 0, .ref m2, .ref m3, .ref m4, .int 0, .ref m5, .ref m6, .ref m7, .int 0, .ref m8, .ref m9, .ref m10, .int 0, .int 0, .ref m11, .ref m12, .ref m13, .int 0, .int 0, .ref m14, .int 0, .ref m15, .ref m16, .ref m17, .int 0, .int 0, .ref m18, .ref m19, .ref m20, .int 0, .ref m21]))] := hD
  refine lv_aload_n hx hb dX7_size_5 rfl (lv_at hl 0 rfl) ?_
  refine va_get (D := (dC, dI)) (ci := 7) (v := .int 0) (C := RX7) (T := TX7) (N := 39) hx hb hg i_X7 hown hK hP 0 rfl rfl 37 (by decide) (hg _ k_241) (fun _ h9 => h9) rfl dX7_size_6 ?_
  have hP9 := hP.sub (ws' := []) [] rfl
  have hD9 := hD.sub (ws' := []) [] (by decide) rfl
  refine W.widen (k := 0) (n := 0) (Nat.le_of_ble_eq_true rfl) (Nat.le_of_ble_eq_true rfl) ?_
  exact W.iret (v := 0) hx hb hr (fun t ht hW => ⟨⟨0, (), rfl, rfl, by rw [ht]; exact hP9, hD9⟩, hS.F ht⟩) hS.2.2 dX7_size_9

set_option maxHeartbeats 4000000 in
set_option maxRecDepth 100000 in
/-- unknowns() of a new reference -/
theorem c_X7_unknowns (l : Launch) (dC : Nat → ClassId) (dI : Nat → Nat → Nat) (cI cZ cL : ClassId) (h0 : Nat) (sz : Nat) (m1 m2 m3 m4 m5 m6 m7 m8 m9 m10 m11 m12 m13 m14 m15 m16 m17 m18 m19 m20 m21 : Nat) : Met l yX7_unknowns (wd yX7_unknowns cX7_unknowns 1 (some .int)) ({ frames := 0, cells := 0, slots := 0, locals := 0 }) (va_Pc [.ref h0] (hp dC dI cI cZ cL sz [(h0, .inr (7, [.int 0, .ref m1, .int 0, .int 0, .int 0, .int 0, .int (-1), .int 0, .int 0, .ref m2, .ref m3, .ref m4, .int 0, .ref m5, .ref m6, .ref m7, .int 0, .ref m8, .ref m9, .ref m10, .int 0, .int 0, .ref m11, .ref m12, .ref m13, .int 0, .int 0, .ref m14, .int 0, .ref m15, .ref m16, .ref m17, .int 0, .int 0, .ref m18, .ref m19, .ref m20, .int 0, .ref m21]))])) (va_Qi (fun (r : Int32) (_ : Unit) => r = 0) (fun (_ : Unit) t => va_P (dC, dI) vwCl [] t.heap ∧ va_D (va_A [(h0, .inr (7, [.int 0, .ref m1, .int 0, .int 0, .int 0, .int 0, .int (-1), .int 0, .int 0, .ref m2, .ref m3, .ref m4, .int 0, .ref m5, .ref m6, .ref m7, .int 0, .ref m8, .ref m9, .ref m10, .int 0, .int 0, .ref m11, .ref m12, .ref m13, .int 0, .int 0, .ref m14, .int 0, .ref m15, .ref m16, .ref m17, .int 0, .int 0, .ref m18, .ref m19, .ref m20, .int 0, .ref m21]))] sz) []) (va_A [(h0, .inr (7, [.int 0, .ref m1, .int 0, .int 0, .int 0, .int 0, .int (-1), .int 0, .int 0, .ref m2, .ref m3, .ref m4, .int 0, .ref m5, .ref m6, .ref m7, .int 0, .ref m8, .ref m9, .ref m10, .int 0, .int 0, .ref m11, .ref m12, .ref m13, .int 0, .int 0, .ref m14, .int 0, .ref m15, .ref m16, .ref m17, .int 0, .int 0, .ref m18, .ref m19, .ref m20, .int 0, .ref m21]))] sz)) 0 0 (va_A [(h0, .inr (7, [.int 0, .ref m1, .int 0, .int 0, .int 0, .int 0, .int (-1), .int 0, .int 0, .ref m2, .ref m3, .ref m4, .int 0, .ref m5, .ref m6, .ref m7, .int 0, .ref m8, .ref m9, .ref m10, .int 0, .int 0, .ref m11, .ref m12, .ref m13, .int 0, .int 0, .ref m14, .int 0, .ref m15, .ref m16, .ref m17, .int 0, .int 0, .ref m18, .ref m19, .ref m20, .int 0, .ref m21]))] sz) := by
  refine Met.ofW (cc := cX7_unknowns) (maxL := 1) (ret := (some .int)) (by decide) rfl ?_
  intro p e s m args below meth c s₁ B hml hv
  obtain ⟨rfl, hsz, hP, hK, hD0⟩ := hv
  have hx := B.exec
  have hb := B.bytes
  have hr := B.returns
  have hw9 := atoms_spec (ws := (wd yX7_unknowns cX7_unknowns 1 (some .int))) B.pre
  have hg := gw_hts hw9
  have hown : s.vm.findClass RX7 = some m.cls := findClass_of_methodNamed B.named
  have hlocks := B.notSynchronized
  subst hsz
  have hD := hD0.self (sz := s.heap.size)
  generalize hAe : va_A [(h0, .inr (7, [.int 0, .ref m1, .int 0, .int 0, .int 0, .int 0, .int (-1), .int 0, .int 0, .ref m2, .ref m3, .ref m4, .int 0, .ref m5, .ref m6, .ref m7, .int 0, .ref m8, .ref m9, .ref m10, .int 0, .int 0, .ref m11, .ref m12, .ref m13, .int 0, .int 0, .ref m14, .int 0, .ref m15, .ref m16, .ref m17, .int 0, .int 0, .ref m18, .ref m19, .ref m20, .int 0, .ref m21]))] s.heap.size = A at hD ⊢
  have hA : ∀ q : Nat, s.heap.size ≤ q → A q := fun q h => by rw [← hAe]; exact Or.inr h
  have hS : va_S A s.heap s.heap [] := va_S.rf
  have hl := lv_entry ([.ref h0]) (n := 1) (Nat.le_of_ble_eq_true rfl)
  rw [lg_entry_eq]
  generalize (lg_sl ([.ref h0]) ++ List.replicate (1 - (lg_sl ([.ref h0])).length) Slot.unset).toArray = ls at hl ⊢
  have hl : lv_has ls 1 [(0, .ref h0)] := hl
  refine lv_aload_n hx hb dX7_unknowns_0 rfl (lv_at hl 0 rfl) ?_
  refine lv_iconst (v := 0) hx hb dX7_unknowns_1 (by decide) ?_
  refine va_put (D := (dC, dI)) (ci := 7) (v := .int 0) (ty := .int) (C := RX7) (T := TX7) (N := 39) hx hb hg i_X7 tyX7 tyX7_ok nmX7 hown hK hP hD hS 0 rfl rfl 0 (by decide) (hg _ k_226) (fun _ h9 => h9) rfl (by decide +kernel) rfl rfl (Nat.le_of_ble_eq_true rfl) dX7_unknowns_2 (fun H locs hP hD hS => ?_)
  have hP : va_P (dC, dI) vwCl [(h0, .inr (7, [.int 0, .ref m1, .int 0, .int 0, .int 0, .int 0, .int (-1), .int 0, .int 0, .ref m2, .ref m3, .ref m4, .int 0, .ref m5, .ref m6, .ref m7, .int 0, .ref m8, .ref m9, .ref m10, .int 0, .int 0, .ref m11, .ref m12, .ref m13, .int 0, .int 0, .ref m14, .int 0, .ref m15, .ref m16, .ref m17, .int 0, .int 0, .ref m18, .ref m19, .ref m20, .int 0, .ref m21]))] H := hP
  have hD : va_D A [(h0, .inr (7, [.int 0, .ref m1, .int 0, .int 0, .int 0, .int 0, .int (-1), .int 0, .int 0, .ref m2, .ref m3, .ref m4, .int 0, .ref m5, .ref m6, .ref m7, .int 0, .ref m8, .ref m9, .ref m10, .int 0, .int 0, .ref m11, .ref m12, .ref m13, .int 0, .int 0, .ref m14, .int 0, .ref m15, .ref m16, .ref m17, .int 0, .int 0, .ref m18, .ref m19, .ref m20, .int 0, .ref m21]))] := hD
  refine lv_aload_n hx hb dX7_unknowns_5 rfl (lv_at hl 0 rfl) ?_
  refine va_get (D := (dC, dI)) (ci := 7) (v := .int 0) (C := RX7) (T := TX7) (N := 39) hx hb hg i_X7 hown hK hP 0 rfl rfl 25 (by decide) (hg _ k_237) (fun _ h9 => h9) rfl dX7_unknowns_6 ?_
  have hP9 := hP.sub (ws' := []) [] rfl
  have hD9 := hD.sub (ws' := []) [] (by decide) rfl
  refine W.widen (k := 0) (n := 0) (Nat.le_of_ble_eq_true rfl) (Nat.le_of_ble_eq_true rfl) ?_
  exact W.iret (v := 0) hx hb hr (fun t ht hW => ⟨⟨0, (), rfl, rfl, by rw [ht]; exact hP9, hD9⟩, hS.F ht⟩) hS.2.2 dX7_unknowns_9

set_option maxHeartbeats 4000000 in
set_option maxRecDepth 100000 in
/-- solved() of a new reference -/
theorem c_X7_solved (l : Launch) (dC : Nat → ClassId) (dI : Nat → Nat → Nat) (cI cZ cL : ClassId) (h0 : Nat) (sz : Nat) (m1 m2 m3 m4 m5 m6 m7 m8 m9 m10 m11 m12 m13 m14 m15 m16 m17 m18 m19 m20 m21 : Nat) : Met l yX7_solved (wd yX7_solved cX7_solved 1 (some .int)) ({ frames := 0, cells := 0, slots := 0, locals := 0 }) (va_Pc [.ref h0] (hp dC dI cI cZ cL sz [(h0, .inr (7, [.int 0, .ref m1, .int 0, .int 0, .int 0, .int 0, .int (-1), .int 0, .int 0, .ref m2, .ref m3, .ref m4, .int 0, .ref m5, .ref m6, .ref m7, .int 0, .ref m8, .ref m9, .ref m10, .int 0, .int 0, .ref m11, .ref m12, .ref m13, .int 0, .int 0, .ref m14, .int 0, .ref m15, .ref m16, .ref m17, .int 0, .int 0, .ref m18, .ref m19, .ref m20, .int 0, .ref m21]))])) (va_Qi (fun (r : Int32) (_ : Unit) => r = 0) (fun (_ : Unit) t => va_P (dC, dI) vwCl [] t.heap ∧ va_D (va_A [(h0, .inr (7, [.int 0, .ref m1, .int 0, .int 0, .int 0, .int 0, .int (-1), .int 0, .int 0, .ref m2, .ref m3, .ref m4, .int 0, .ref m5, .ref m6, .ref m7, .int 0, .ref m8, .ref m9, .ref m10, .int 0, .int 0, .ref m11, .ref m12, .ref m13, .int 0, .int 0, .ref m14, .int 0, .ref m15, .ref m16, .ref m17, .int 0, .int 0, .ref m18, .ref m19, .ref m20, .int 0, .ref m21]))] sz) []) (va_A [(h0, .inr (7, [.int 0, .ref m1, .int 0, .int 0, .int 0, .int 0, .int (-1), .int 0, .int 0, .ref m2, .ref m3, .ref m4, .int 0, .ref m5, .ref m6, .ref m7, .int 0, .ref m8, .ref m9, .ref m10, .int 0, .int 0, .ref m11, .ref m12, .ref m13, .int 0, .int 0, .ref m14, .int 0, .ref m15, .ref m16, .ref m17, .int 0, .int 0, .ref m18, .ref m19, .ref m20, .int 0, .ref m21]))] sz)) 0 0 (va_A [(h0, .inr (7, [.int 0, .ref m1, .int 0, .int 0, .int 0, .int 0, .int (-1), .int 0, .int 0, .ref m2, .ref m3, .ref m4, .int 0, .ref m5, .ref m6, .ref m7, .int 0, .ref m8, .ref m9, .ref m10, .int 0, .int 0, .ref m11, .ref m12, .ref m13, .int 0, .int 0, .ref m14, .int 0, .ref m15, .ref m16, .ref m17, .int 0, .int 0, .ref m18, .ref m19, .ref m20, .int 0, .ref m21]))] sz) := by
  refine Met.ofW (cc := cX7_solved) (maxL := 1) (ret := (some .int)) (by decide) rfl ?_
  intro p e s m args below meth c s₁ B hml hv
  obtain ⟨rfl, hsz, hP, hK, hD0⟩ := hv
  have hx := B.exec
  have hb := B.bytes
  have hr := B.returns
  have hw9 := atoms_spec (ws := (wd yX7_solved cX7_solved 1 (some .int))) B.pre
  have hg := gw_hts hw9
  have hown : s.vm.findClass RX7 = some m.cls := findClass_of_methodNamed B.named
  have hlocks := B.notSynchronized
  subst hsz
  have hD := hD0.self (sz := s.heap.size)
  generalize hAe : va_A [(h0, .inr (7, [.int 0, .ref m1, .int 0, .int 0, .int 0, .int 0, .int (-1), .int 0, .int 0, .ref m2, .ref m3, .ref m4, .int 0, .ref m5, .ref m6, .ref m7, .int 0, .ref m8, .ref m9, .ref m10, .int 0, .int 0, .ref m11, .ref m12, .ref m13, .int 0, .int 0, .ref m14, .int 0, .ref m15, .ref m16, .ref m17, .int 0, .int 0, .ref m18, .ref m19, .ref m20, .int 0, .ref m21]))] s.heap.size = A at hD ⊢
  have hA : ∀ q : Nat, s.heap.size ≤ q → A q := fun q h => by rw [← hAe]; exact Or.inr h
  have hS : va_S A s.heap s.heap [] := va_S.rf
  have hl := lv_entry ([.ref h0]) (n := 1) (Nat.le_of_ble_eq_true rfl)
  rw [lg_entry_eq]
  generalize (lg_sl ([.ref h0]) ++ List.replicate (1 - (lg_sl ([.ref h0])).length) Slot.unset).toArray = ls at hl ⊢
  have hl : lv_has ls 1 [(0, .ref h0)] := hl
  refine lv_aload_n hx hb dX7_solved_0 rfl (lv_at hl 0 rfl) ?_
  refine lv_iconst (v := 0) hx hb dX7_solved_1 (by decide) ?_
  refine va_put (D := (dC, dI)) (ci := 7) (v := .int 0) (ty := .int) (C := RX7) (T := TX7) (N := 39) hx hb hg i_X7 tyX7 tyX7_ok nmX7 hown hK hP hD hS 0 rfl rfl 0 (by decide) (hg _ k_226) (fun _ h9 => h9) rfl (by decide +kernel) rfl rfl (Nat.le_of_ble_eq_true rfl) dX7_solved_2 (fun H locs hP hD hS => ?_)
  have hP : va_P (dC, dI) vwCl [(h0, .inr (7, [.int 0, .ref m1, .int 0, .int 0, .int 0, .int 0, .int (-1), .int 0, .int 0, .ref m2, .ref m3, .ref m4, .int 0, .ref m5, .ref m6, .ref m7, .int 0, .ref m8, .ref m9, .ref m10, .int 0, .int 0, .ref m11, .ref m12, .ref m13, .int 0, .int 0, .ref m14, .int 0, .ref m15, .ref m16, .ref m17, .int 0, .int 0, .ref m18, .ref m19, .ref m20, .int 0, .ref m21]))] H := hP
  have hD : va_D A [(h0, .inr (7, [.int 0, .ref m1, .int 0, .int 0, .int 0, .int 0, .int (-1), .int 0, .int 0, .ref m2, .ref m3, .ref m4, .int 0, .ref m5, .ref m6, .ref m7, .int 0, .ref m8, .ref m9, .ref m10, .int 0, .int 0, .ref m11, .ref m12, .ref m13, .int 0, .int 0, .ref m14, .int 0, .ref m15, .ref m16, .ref m17, .int 0, .int 0, .ref m18, .ref m19, .ref m20, .int 0, .ref m21]))] := hD
  refine lv_aload_n hx hb dX7_solved_5 rfl (lv_at hl 0 rfl) ?_
  refine va_get (D := (dC, dI)) (ci := 7) (v := .int 0) (C := RX7) (T := TX7) (N := 39) hx hb hg i_X7 hown hK hP 0 rfl rfl 26 (by decide) (hg _ k_238) (fun _ h9 => h9) rfl dX7_solved_6 ?_
  have hP9 := hP.sub (ws' := []) [] rfl
  have hD9 := hD.sub (ws' := []) [] (by decide) rfl
  refine W.widen (k := 0) (n := 0) (Nat.le_of_ble_eq_true rfl) (Nat.le_of_ble_eq_true rfl) ?_
  exact W.iret (v := 0) hx hb hr (fun t ht hW => ⟨⟨0, (), rfl, rfl, by rw [ht]; exact hP9, hD9⟩, hS.F ht⟩) hS.2.2 dX7_solved_9

set_option maxHeartbeats 4000000 in
set_option maxRecDepth 100000 in
/-- out(i), i < 0 -/
theorem c_X7_outN (l : Launch) (dC : Nat → ClassId) (dI : Nat → Nat → Nat) (cI cZ cL : ClassId) (h0 : Nat) (sz : Nat) (m1 m2 m3 m4 m5 m6 m7 m8 m9 m10 m11 m12 m13 m14 m15 m16 m17 m18 m19 m20 m21 : Nat) (x : Int32) (hn : x < 0) : Met l yX7_out (wd yX7_out cX7_out 2 (some .int)) ({ frames := 1, cells := 0, slots := 0, locals := 22 }) (va_Pc [.ref h0, .int x] (hp dC dI cI cZ cL sz [(h0, .inr (7, [.int 0, .ref m1, .int 0, .int 0, .int 0, .int 0, .int (-1), .int 0, .int 0, .ref m2, .ref m3, .ref m4, .int 0, .ref m5, .ref m6, .ref m7, .int 0, .ref m8, .ref m9, .ref m10, .int 0, .int 0, .ref m11, .ref m12, .ref m13, .int 0, .int 0, .ref m14, .int 0, .ref m15, .ref m16, .ref m17, .int 0, .int 0, .ref m18, .ref m19, .ref m20, .int 0, .ref m21]))])) (va_Qi (fun (r : Int32) (_ : Unit) => r = 0) (fun (_ : Unit) t => va_P (dC, dI) vwCl [(h0, .inr (7, [.int 1, .ref m1, .int 0, .int 0, .int 0, .int 0, .int (-1), .int 0, .int 0, .ref m2, .ref m3, .ref m4, .int 0, .ref m5, .ref m6, .ref m7, .int 0, .ref m8, .ref m9, .ref m10, .int 0, .int 0, .ref m11, .ref m12, .ref m13, .int 0, .int 0, .ref m14, .int 0, .ref m15, .ref m16, .ref m17, .int 0, .int 0, .ref m18, .ref m19, .ref m20, .int 0, .ref m21]))] t.heap ∧ va_D (va_A [(h0, .inr (7, [.int 0, .ref m1, .int 0, .int 0, .int 0, .int 0, .int (-1), .int 0, .int 0, .ref m2, .ref m3, .ref m4, .int 0, .ref m5, .ref m6, .ref m7, .int 0, .ref m8, .ref m9, .ref m10, .int 0, .int 0, .ref m11, .ref m12, .ref m13, .int 0, .int 0, .ref m14, .int 0, .ref m15, .ref m16, .ref m17, .int 0, .int 0, .ref m18, .ref m19, .ref m20, .int 0, .ref m21]))] sz) [(h0, .inr (7, [.int 1, .ref m1, .int 0, .int 0, .int 0, .int 0, .int (-1), .int 0, .int 0, .ref m2, .ref m3, .ref m4, .int 0, .ref m5, .ref m6, .ref m7, .int 0, .ref m8, .ref m9, .ref m10, .int 0, .int 0, .ref m11, .ref m12, .ref m13, .int 0, .int 0, .ref m14, .int 0, .ref m15, .ref m16, .ref m17, .int 0, .int 0, .ref m18, .ref m19, .ref m20, .int 0, .ref m21]))]) (va_A [(h0, .inr (7, [.int 0, .ref m1, .int 0, .int 0, .int 0, .int 0, .int (-1), .int 0, .int 0, .ref m2, .ref m3, .ref m4, .int 0, .ref m5, .ref m6, .ref m7, .int 0, .ref m8, .ref m9, .ref m10, .int 0, .int 0, .ref m11, .ref m12, .ref m13, .int 0, .int 0, .ref m14, .int 0, .ref m15, .ref m16, .ref m17, .int 0, .int 0, .ref m18, .ref m19, .ref m20, .int 0, .ref m21]))] sz)) 0 0 (va_A [(h0, .inr (7, [.int 0, .ref m1, .int 0, .int 0, .int 0, .int 0, .int (-1), .int 0, .int 0, .ref m2, .ref m3, .ref m4, .int 0, .ref m5, .ref m6, .ref m7, .int 0, .ref m8, .ref m9, .ref m10, .int 0, .int 0, .ref m11, .ref m12, .ref m13, .int 0, .int 0, .ref m14, .int 0, .ref m15, .ref m16, .ref m17, .int 0, .int 0, .ref m18, .ref m19, .ref m20, .int 0, .ref m21]))] sz) := by
  refine Met.ofW (cc := cX7_out) (maxL := 2) (ret := (some .int)) (by decide) rfl ?_
  intro p e s m args below meth c s₁ B hml hv
  obtain ⟨rfl, hsz, hP, hK, hD0⟩ := hv
  have hx := B.exec
  have hb := B.bytes
  have hr := B.returns
  have hw9 := atoms_spec (ws := (wd yX7_out cX7_out 2 (some .int))) B.pre
  have hg := gw_hts hw9
  have hown : s.vm.findClass RX7 = some m.cls := findClass_of_methodNamed B.named
  have hlocks := B.notSynchronized
  subst hsz
  have hD := hD0.self (sz := s.heap.size)
  generalize hAe : va_A [(h0, .inr (7, [.int 0, .ref m1, .int 0, .int 0, .int 0, .int 0, .int (-1), .int 0, .int 0, .ref m2, .ref m3, .ref m4, .int 0, .ref m5, .ref m6, .ref m7, .int 0, .ref m8, .ref m9, .ref m10, .int 0, .int 0, .ref m11, .ref m12, .ref m13, .int 0, .int 0, .ref m14, .int 0, .ref m15, .ref m16, .ref m17, .int 0, .int 0, .ref m18, .ref m19, .ref m20, .int 0, .ref m21]))] s.heap.size = A at hD ⊢
  have hA : ∀ q : Nat, s.heap.size ≤ q → A q := fun q h => by rw [← hAe]; exact Or.inr h
  have hS : va_S A s.heap s.heap [] := va_S.rf
  have hl := lv_entry ([.ref h0, .int x]) (n := 2) (Nat.le_of_ble_eq_true rfl)
  rw [lg_entry_eq]
  generalize (lg_sl ([.ref h0, .int x]) ++ List.replicate (2 - (lg_sl ([.ref h0, .int x])).length) Slot.unset).toArray = ls at hl ⊢
  have hl : lv_has ls 2 [(0, .ref h0), (1, .int x)] := hl
  refine lv_aload_n hx hb dX7_out_0 rfl (lv_at hl 0 rfl) ?_
  refine lv_iload_n hx hb dX7_out_1 rfl (lv_at hl 1 rfl) ?_
  refine lv_if_lt (tgt := 13) hx hb dX7_out_2 (by decide) (fun _ => ?_) (fun c9 => absurd hn c9)
  refine lv_iconst (v := 1) hx hb dX7_out_13 (by decide) ?_
  refine lv_goto (tgt := 18) hx hb dX7_out_14 (by decide) ?_
  refine lv_iconst (v := 0) hx hb dX7_out_18 (by decide) ?_
  have hPc := hP.sub (ws' := [(h0, .inr (7, [.int 0, .ref m1, .int 0, .int 0, .int 0, .int 0, .int (-1), .int 0, .int 0, .ref m2, .ref m3, .ref m4, .int 0, .ref m5, .ref m6, .ref m7, .int 0, .ref m8, .ref m9, .ref m10, .int 0, .int 0, .ref m11, .ref m12, .ref m13, .int 0, .int 0, .ref m14, .int 0, .ref m15, .ref m16, .ref m17, .int 0, .int 0, .ref m18, .ref m19, .ref m20, .int 0, .ref m21]))]) [0] rfl
  have hDc := hD.sub (ws' := [(h0, .inr (7, [.int 0, .ref m1, .int 0, .int 0, .int 0, .int 0, .int (-1), .int 0, .int 0, .ref m2, .ref m3, .ref m4, .int 0, .ref m5, .ref m6, .ref m7, .int 0, .ref m8, .ref m9, .ref m10, .int 0, .int 0, .ref m11, .ref m12, .ref m13, .int 0, .int 0, .ref m14, .int 0, .ref m15, .ref m16, .ref m17, .int 0, .int 0, .ref m18, .ref m19, .ref m20, .int 0, .ref m21]))]) [0] (by decide) rfl
  have hFc := va_free (wc := [(h0, .inr (7, [.int 0, .ref m1, .int 0, .int 0, .int 0, .int 0, .int (-1), .int 0, .int 0, .ref m2, .ref m3, .ref m4, .int 0, .ref m5, .ref m6, .ref m7, .int 0, .ref m8, .ref m9, .ref m10, .int 0, .int 0, .ref m11, .ref m12, .ref m13, .int 0, .int 0, .ref m14, .int 0, .ref m15, .ref m16, .ref m17, .int 0, .int 0, .ref m18, .ref m19, .ref m20, .int 0, .ref m21]))]) hD hS hA [0] rfl
  refine va_calli (va_runV (As := [.int 1, .int 0]) (rest := []) ⟨hx, hb, hml, hown, hg⟩ (c_thrA l dC dI cI cZ cL h0 (Array.size _) [.ref m1, .int 0, .int 0, .int 0, .int 0, .int (-1), .int 0, .int 0, .ref m2, .ref m3, .ref m4, .int 0, .ref m5, .ref m6, .ref m7, .int 0, .ref m8, .ref m9, .ref m10, .int 0, .int 0, .ref m11, .ref m12, .ref m13, .int 0, .int 0, .ref m14, .int 0, .ref m15, .ref m16, .ref m17, .int 0, .int 0, .ref m18, .ref m19, .ref m20, .int 0, .ref m21]) (cwV 2 hg (gw_V k_260 k_261 k_262 k_245 g_yX7_throwing) rfl rfl rfl (by decide +kernel) ⟨(Nat.le_of_ble_eq_true rfl), (Nat.le_of_ble_eq_true rfl)⟩) ⟨hp_bl, va_recv hK hPc (ci := 7) (q0 := 0) rfl rfl, fun U hU hW => hp_ok hU hW hPc hK hDc⟩ rfl rfl hl.1 rfl (lv_room (Nat.le_of_ble_eq_true rfl)) dX7_out_19 ⟨(Nat.le_of_ble_eq_true rfl), (Nat.le_of_ble_eq_true rfl)⟩) hS (fun q _ h => hFc q h) hFc (fun r9 u t H locs ht hvm hw hB hz1 hk1 hS => ?_)
  obtain ⟨hP1, hD1⟩ := hB
  rw [ht] at hP1
  obtain ⟨hP, hD⟩ := va_join (wr := []) (w1 := [(h0, .inr (7, [.int 1, .ref m1, .int 0, .int 0, .int 0, .int 0, .int (-1), .int 0, .int 0, .ref m2, .ref m3, .ref m4, .int 0, .ref m5, .ref m6, .ref m7, .int 0, .ref m8, .ref m9, .ref m10, .int 0, .int 0, .ref m11, .ref m12, .ref m13, .int 0, .int 0, .ref m14, .int 0, .ref m15, .ref m16, .ref m17, .int 0, .int 0, .ref m18, .ref m19, .ref m20, .int 0, .ref m21]))]) hP hD [0] [] rfl rfl (by decide) (by decide) hk1 hFc hP1 hD1
  have hP : va_P (dC, dI) vwCl [(h0, .inr (7, [.int 1, .ref m1, .int 0, .int 0, .int 0, .int 0, .int (-1), .int 0, .int 0, .ref m2, .ref m3, .ref m4, .int 0, .ref m5, .ref m6, .ref m7, .int 0, .ref m8, .ref m9, .ref m10, .int 0, .int 0, .ref m11, .ref m12, .ref m13, .int 0, .int 0, .ref m14, .int 0, .ref m15, .ref m16, .ref m17, .int 0, .int 0, .ref m18, .ref m19, .ref m20, .int 0, .ref m21]))] H := hP
  have hD : va_D A [(h0, .inr (7, [.int 1, .ref m1, .int 0, .int 0, .int 0, .int 0, .int (-1), .int 0, .int 0, .ref m2, .ref m3, .ref m4, .int 0, .ref m5, .ref m6, .ref m7, .int 0, .ref m8, .ref m9, .ref m10, .int 0, .int 0, .ref m11, .ref m12, .ref m13, .int 0, .int 0, .ref m14, .int 0, .ref m15, .ref m16, .ref m17, .int 0, .int 0, .ref m18, .ref m19, .ref m20, .int 0, .ref m21]))] := hD
  refine W.widen (k := 0) (n := 0) (Nat.le_of_ble_eq_true rfl) (Nat.le_of_ble_eq_true rfl) ?_
  obtain rfl : r9 = 1 := hw
  refine lv_if_eq (tgt := 27) hx hb dX7_out_22 (by decide) (fun c9 => absurd c9 (by decide)) (fun _ => ?_)
  refine lv_iconst (v := 0) hx hb dX7_out_25 (by decide) ?_
  have hP9 := hP.sub (ws' := [(h0, .inr (7, [.int 1, .ref m1, .int 0, .int 0, .int 0, .int 0, .int (-1), .int 0, .int 0, .ref m2, .ref m3, .ref m4, .int 0, .ref m5, .ref m6, .ref m7, .int 0, .ref m8, .ref m9, .ref m10, .int 0, .int 0, .ref m11, .ref m12, .ref m13, .int 0, .int 0, .ref m14, .int 0, .ref m15, .ref m16, .ref m17, .int 0, .int 0, .ref m18, .ref m19, .ref m20, .int 0, .ref m21]))]) [0] rfl
  have hD9 := hD.sub (ws' := [(h0, .inr (7, [.int 1, .ref m1, .int 0, .int 0, .int 0, .int 0, .int (-1), .int 0, .int 0, .ref m2, .ref m3, .ref m4, .int 0, .ref m5, .ref m6, .ref m7, .int 0, .ref m8, .ref m9, .ref m10, .int 0, .int 0, .ref m11, .ref m12, .ref m13, .int 0, .int 0, .ref m14, .int 0, .ref m15, .ref m16, .ref m17, .int 0, .int 0, .ref m18, .ref m19, .ref m20, .int 0, .ref m21]))]) [0] (by decide) rfl
  refine W.widen (k := 0) (n := 0) (Nat.le_of_ble_eq_true rfl) (Nat.le_of_ble_eq_true rfl) ?_
  exact W.iret (v := 0) hx hb hr (fun t ht hW => ⟨⟨0, (), rfl, rfl, by rw [ht]; exact hP9, hD9⟩, hS.F ht⟩) hS.2.2 dX7_out_26

set_option maxHeartbeats 4000000 in
set_option maxRecDepth 100000 in
/-- out(i), 0 <= i -/
theorem c_X7_outP (l : Launch) (dC : Nat → ClassId) (dI : Nat → Nat → Nat) (cI cZ cL : ClassId) (h0 : Nat) (sz : Nat) (m1 m2 m3 m4 m5 m6 m7 m8 m9 m10 m11 m12 m13 m14 m15 m16 m17 m18 m19 m20 m21 : Nat) (x : Int32) (hn : ¬ x < 0) : Met l yX7_out (wd yX7_out cX7_out 2 (some .int)) ({ frames := 1, cells := 0, slots := 0, locals := 22 }) (va_Pc [.ref h0, .int x] (hp dC dI cI cZ cL sz [(h0, .inr (7, [.int 0, .ref m1, .int 0, .int 0, .int 0, .int 0, .int (-1), .int 0, .int 0, .ref m2, .ref m3, .ref m4, .int 0, .ref m5, .ref m6, .ref m7, .int 0, .ref m8, .ref m9, .ref m10, .int 0, .int 0, .ref m11, .ref m12, .ref m13, .int 0, .int 0, .ref m14, .int 0, .ref m15, .ref m16, .ref m17, .int 0, .int 0, .ref m18, .ref m19, .ref m20, .int 0, .ref m21]))])) (va_Qi (fun (r : Int32) (_ : Unit) => r = 0) (fun (_ : Unit) t => va_P (dC, dI) vwCl [(h0, .inr (7, [.int 1, .ref m1, .int 0, .int 0, .int 0, .int 0, .int (-1), .int 0, .int 0, .ref m2, .ref m3, .ref m4, .int 0, .ref m5, .ref m6, .ref m7, .int 0, .ref m8, .ref m9, .ref m10, .int 0, .int 0, .ref m11, .ref m12, .ref m13, .int 0, .int 0, .ref m14, .int 0, .ref m15, .ref m16, .ref m17, .int 0, .int 0, .ref m18, .ref m19, .ref m20, .int 0, .ref m21]))] t.heap ∧ va_D (va_A [(h0, .inr (7, [.int 0, .ref m1, .int 0, .int 0, .int 0, .int 0, .int (-1), .int 0, .int 0, .ref m2, .ref m3, .ref m4, .int 0, .ref m5, .ref m6, .ref m7, .int 0, .ref m8, .ref m9, .ref m10, .int 0, .int 0, .ref m11, .ref m12, .ref m13, .int 0, .int 0, .ref m14, .int 0, .ref m15, .ref m16, .ref m17, .int 0, .int 0, .ref m18, .ref m19, .ref m20, .int 0, .ref m21]))] sz) [(h0, .inr (7, [.int 1, .ref m1, .int 0, .int 0, .int 0, .int 0, .int (-1), .int 0, .int 0, .ref m2, .ref m3, .ref m4, .int 0, .ref m5, .ref m6, .ref m7, .int 0, .ref m8, .ref m9, .ref m10, .int 0, .int 0, .ref m11, .ref m12, .ref m13, .int 0, .int 0, .ref m14, .int 0, .ref m15, .ref m16, .ref m17, .int 0, .int 0, .ref m18, .ref m19, .ref m20, .int 0, .ref m21]))]) (va_A [(h0, .inr (7, [.int 0, .ref m1, .int 0, .int 0, .int 0, .int 0, .int (-1), .int 0, .int 0, .ref m2, .ref m3, .ref m4, .int 0, .ref m5, .ref m6, .ref m7, .int 0, .ref m8, .ref m9, .ref m10, .int 0, .int 0, .ref m11, .ref m12, .ref m13, .int 0, .int 0, .ref m14, .int 0, .ref m15, .ref m16, .ref m17, .int 0, .int 0, .ref m18, .ref m19, .ref m20, .int 0, .ref m21]))] sz)) 0 0 (va_A [(h0, .inr (7, [.int 0, .ref m1, .int 0, .int 0, .int 0, .int 0, .int (-1), .int 0, .int 0, .ref m2, .ref m3, .ref m4, .int 0, .ref m5, .ref m6, .ref m7, .int 0, .ref m8, .ref m9, .ref m10, .int 0, .int 0, .ref m11, .ref m12, .ref m13, .int 0, .int 0, .ref m14, .int 0, .ref m15, .ref m16, .ref m17, .int 0, .int 0, .ref m18, .ref m19, .ref m20, .int 0, .ref m21]))] sz) := by
  refine Met.ofW (cc := cX7_out) (maxL := 2) (ret := (some .int)) (by decide) rfl ?_
  intro p e s m args below meth c s₁ B hml hv
  obtain ⟨rfl, hsz, hP, hK, hD0⟩ := hv
  have hx := B.exec
  have hb := B.bytes
  have hr := B.returns
  have hw9 := atoms_spec (ws := (wd yX7_out cX7_out 2 (some .int))) B.pre
  have hg := gw_hts hw9
  have hown : s.vm.findClass RX7 = some m.cls := findClass_of_methodNamed B.named
  have hlocks := B.notSynchronized
  subst hsz
  have hD := hD0.self (sz := s.heap.size)
  generalize hAe : va_A [(h0, .inr (7, [.int 0, .ref m1, .int 0, .int 0, .int 0, .int 0, .int (-1), .int 0, .int 0, .ref m2, .ref m3, .ref m4, .int 0, .ref m5, .ref m6, .ref m7, .int 0, .ref m8, .ref m9, .ref m10, .int 0, .int 0, .ref m11, .ref m12, .ref m13, .int 0, .int 0, .ref m14, .int 0, .ref m15, .ref m16, .ref m17, .int 0, .int 0, .ref m18, .ref m19, .ref m20, .int 0, .ref m21]))] s.heap.size = A at hD ⊢
  have hA : ∀ q : Nat, s.heap.size ≤ q → A q := fun q h => by rw [← hAe]; exact Or.inr h
  have hS : va_S A s.heap s.heap [] := va_S.rf
  have hl := lv_entry ([.ref h0, .int x]) (n := 2) (Nat.le_of_ble_eq_true rfl)
  rw [lg_entry_eq]
  generalize (lg_sl ([.ref h0, .int x]) ++ List.replicate (2 - (lg_sl ([.ref h0, .int x])).length) Slot.unset).toArray = ls at hl ⊢
  have hl : lv_has ls 2 [(0, .ref h0), (1, .int x)] := hl
  refine lv_aload_n hx hb dX7_out_0 rfl (lv_at hl 0 rfl) ?_
  refine lv_iload_n hx hb dX7_out_1 rfl (lv_at hl 1 rfl) ?_
  refine lv_if_lt (tgt := 13) hx hb dX7_out_2 (by decide) (fun c9 => absurd c9 hn) (fun _ => ?_)
  refine lv_iload_n hx hb dX7_out_5 rfl (lv_at hl 1 rfl) ?_
  refine lv_aload_n hx hb dX7_out_6 rfl (lv_at hl 0 rfl) ?_
  refine va_get (D := (dC, dI)) (ci := 7) (v := .int 0) (C := RX7) (T := TX7) (N := 39) hx hb hg i_X7 hown hK hP 0 rfl rfl 37 (by decide) (hg _ k_241) (fun _ h9 => h9) rfl dX7_out_7 ?_
  refine lv_icmp_lt (tgt := 17) hx hb dX7_out_10 (by decide) (fun c9 => absurd c9 hn) (fun _ => ?_)
  refine lv_iconst (v := 1) hx hb dX7_out_13 (by decide) ?_
  refine lv_goto (tgt := 18) hx hb dX7_out_14 (by decide) ?_
  refine lv_iconst (v := 0) hx hb dX7_out_18 (by decide) ?_
  have hPc := hP.sub (ws' := [(h0, .inr (7, [.int 0, .ref m1, .int 0, .int 0, .int 0, .int 0, .int (-1), .int 0, .int 0, .ref m2, .ref m3, .ref m4, .int 0, .ref m5, .ref m6, .ref m7, .int 0, .ref m8, .ref m9, .ref m10, .int 0, .int 0, .ref m11, .ref m12, .ref m13, .int 0, .int 0, .ref m14, .int 0, .ref m15, .ref m16, .ref m17, .int 0, .int 0, .ref m18, .ref m19, .ref m20, .int 0, .ref m21]))]) [0] rfl
  have hDc := hD.sub (ws' := [(h0, .inr (7, [.int 0, .ref m1, .int 0, .int 0, .int 0, .int 0, .int (-1), .int 0, .int 0, .ref m2, .ref m3, .ref m4, .int 0, .ref m5, .ref m6, .ref m7, .int 0, .ref m8, .ref m9, .ref m10, .int 0, .int 0, .ref m11, .ref m12, .ref m13, .int 0, .int 0, .ref m14, .int 0, .ref m15, .ref m16, .ref m17, .int 0, .int 0, .ref m18, .ref m19, .ref m20, .int 0, .ref m21]))]) [0] (by decide) rfl
  have hFc := va_free (wc := [(h0, .inr (7, [.int 0, .ref m1, .int 0, .int 0, .int 0, .int 0, .int (-1), .int 0, .int 0, .ref m2, .ref m3, .ref m4, .int 0, .ref m5, .ref m6, .ref m7, .int 0, .ref m8, .ref m9, .ref m10, .int 0, .int 0, .ref m11, .ref m12, .ref m13, .int 0, .int 0, .ref m14, .int 0, .ref m15, .ref m16, .ref m17, .int 0, .int 0, .ref m18, .ref m19, .ref m20, .int 0, .ref m21]))]) hD hS hA [0] rfl
  refine va_calli (va_runV (As := [.int 1, .int 0]) (rest := []) ⟨hx, hb, hml, hown, hg⟩ (c_thrA l dC dI cI cZ cL h0 (Array.size _) [.ref m1, .int 0, .int 0, .int 0, .int 0, .int (-1), .int 0, .int 0, .ref m2, .ref m3, .ref m4, .int 0, .ref m5, .ref m6, .ref m7, .int 0, .ref m8, .ref m9, .ref m10, .int 0, .int 0, .ref m11, .ref m12, .ref m13, .int 0, .int 0, .ref m14, .int 0, .ref m15, .ref m16, .ref m17, .int 0, .int 0, .ref m18, .ref m19, .ref m20, .int 0, .ref m21]) (cwV 2 hg (gw_V k_260 k_261 k_262 k_245 g_yX7_throwing) rfl rfl rfl (by decide +kernel) ⟨(Nat.le_of_ble_eq_true rfl), (Nat.le_of_ble_eq_true rfl)⟩) ⟨hp_bl, va_recv hK hPc (ci := 7) (q0 := 0) rfl rfl, fun U hU hW => hp_ok hU hW hPc hK hDc⟩ rfl rfl hl.1 rfl (lv_room (Nat.le_of_ble_eq_true rfl)) dX7_out_19 ⟨(Nat.le_of_ble_eq_true rfl), (Nat.le_of_ble_eq_true rfl)⟩) hS (fun q _ h => hFc q h) hFc (fun r9 u t H locs ht hvm hw hB hz1 hk1 hS => ?_)
  obtain ⟨hP1, hD1⟩ := hB
  rw [ht] at hP1
  obtain ⟨hP, hD⟩ := va_join (wr := []) (w1 := [(h0, .inr (7, [.int 1, .ref m1, .int 0, .int 0, .int 0, .int 0, .int (-1), .int 0, .int 0, .ref m2, .ref m3, .ref m4, .int 0, .ref m5, .ref m6, .ref m7, .int 0, .ref m8, .ref m9, .ref m10, .int 0, .int 0, .ref m11, .ref m12, .ref m13, .int 0, .int 0, .ref m14, .int 0, .ref m15, .ref m16, .ref m17, .int 0, .int 0, .ref m18, .ref m19, .ref m20, .int 0, .ref m21]))]) hP hD [0] [] rfl rfl (by decide) (by decide) hk1 hFc hP1 hD1
  have hP : va_P (dC, dI) vwCl [(h0, .inr (7, [.int 1, .ref m1, .int 0, .int 0, .int 0, .int 0, .int (-1), .int 0, .int 0, .ref m2, .ref m3, .ref m4, .int 0, .ref m5, .ref m6, .ref m7, .int 0, .ref m8, .ref m9, .ref m10, .int 0, .int 0, .ref m11, .ref m12, .ref m13, .int 0, .int 0, .ref m14, .int 0, .ref m15, .ref m16, .ref m17, .int 0, .int 0, .ref m18, .ref m19, .ref m20, .int 0, .ref m21]))] H := hP
  have hD : va_D A [(h0, .inr (7, [.int 1, .ref m1, .int 0, .int 0, .int 0, .int 0, .int (-1), .int 0, .int 0, .ref m2, .ref m3, .ref m4, .int 0, .ref m5, .ref m6, .ref m7, .int 0, .ref m8, .ref m9, .ref m10, .int 0, .int 0, .ref m11, .ref m12, .ref m13, .int 0, .int 0, .ref m14, .int 0, .ref m15, .ref m16, .ref m17, .int 0, .int 0, .ref m18, .ref m19, .ref m20, .int 0, .ref m21]))] := hD
  refine W.widen (k := 0) (n := 0) (Nat.le_of_ble_eq_true rfl) (Nat.le_of_ble_eq_true rfl) ?_
  obtain rfl : r9 = 1 := hw
  refine lv_if_eq (tgt := 27) hx hb dX7_out_22 (by decide) (fun c9 => absurd c9 (by decide)) (fun _ => ?_)
  refine lv_iconst (v := 0) hx hb dX7_out_25 (by decide) ?_
  have hP9 := hP.sub (ws' := [(h0, .inr (7, [.int 1, .ref m1, .int 0, .int 0, .int 0, .int 0, .int (-1), .int 0, .int 0, .ref m2, .ref m3, .ref m4, .int 0, .ref m5, .ref m6, .ref m7, .int 0, .ref m8, .ref m9, .ref m10, .int 0, .int 0, .ref m11, .ref m12, .ref m13, .int 0, .int 0, .ref m14, .int 0, .ref m15, .ref m16, .ref m17, .int 0, .int 0, .ref m18, .ref m19, .ref m20, .int 0, .ref m21]))]) [0] rfl
  have hD9 := hD.sub (ws' := [(h0, .inr (7, [.int 1, .ref m1, .int 0, .int 0, .int 0, .int 0, .int (-1), .int 0, .int 0, .ref m2, .ref m3, .ref m4, .int 0, .ref m5, .ref m6, .ref m7, .int 0, .ref m8, .ref m9, .ref m10, .int 0, .int 0, .ref m11, .ref m12, .ref m13, .int 0, .int 0, .ref m14, .int 0, .ref m15, .ref m16, .ref m17, .int 0, .int 0, .ref m18, .ref m19, .ref m20, .int 0, .ref m21]))]) [0] (by decide) rfl
  refine W.widen (k := 0) (n := 0) (Nat.le_of_ble_eq_true rfl) (Nat.le_of_ble_eq_true rfl) ?_
  exact W.iret (v := 0) hx hb hr (fun t ht hW => ⟨⟨0, (), rfl, rfl, by rw [ht]; exact hP9, hD9⟩, hS.F ht⟩) hS.2.2 dX7_out_26

set_option maxHeartbeats 4000000 in
set_option maxRecDepth 100000 in
/-- feed(.., n), n < 1 -/
theorem c_X7_feedL (l : Launch) (dC : Nat → ClassId) (dI : Nat → Nat → Nat) (cI cZ cL : ClassId) (h0 : Nat) (sz : Nat) (m1 m2 m3 m4 m5 m6 m7 m8 m9 m10 m11 m12 m13 m14 m15 m16 m17 m18 m19 m20 m21 : Nat) (b : Int64) (x : Int32) (hn : x < 1) : Met l yX7_feed (wd yX7_feed cX7_feed 6 (some .int)) ({ frames := 1, cells := 0, slots := 0, locals := 22 }) (va_Pc [.ref h0, .long b, .int x] (hp dC dI cI cZ cL sz [(h0, .inr (7, [.int 0, .ref m1, .int 0, .int 0, .int 0, .int 0, .int (-1), .int 0, .int 0, .ref m2, .ref m3, .ref m4, .int 0, .ref m5, .ref m6, .ref m7, .int 0, .ref m8, .ref m9, .ref m10, .int 0, .int 0, .ref m11, .ref m12, .ref m13, .int 0, .int 0, .ref m14, .int 0, .ref m15, .ref m16, .ref m17, .int 0, .int 0, .ref m18, .ref m19, .ref m20, .int 0, .ref m21]))])) (va_Qi (fun (r : Int32) (_ : Unit) => r = 0) (fun (_ : Unit) t => va_P (dC, dI) vwCl [(h0, .inr (7, [.int 1, .ref m1, .int 0, .int 0, .int 0, .int 0, .int (-1), .int 0, .int 0, .ref m2, .ref m3, .ref m4, .int 0, .ref m5, .ref m6, .ref m7, .int 0, .ref m8, .ref m9, .ref m10, .int 0, .int 0, .ref m11, .ref m12, .ref m13, .int 0, .int 0, .ref m14, .int 0, .ref m15, .ref m16, .ref m17, .int 0, .int 0, .ref m18, .ref m19, .ref m20, .int 0, .ref m21]))] t.heap ∧ va_D (va_A [(h0, .inr (7, [.int 0, .ref m1, .int 0, .int 0, .int 0, .int 0, .int (-1), .int 0, .int 0, .ref m2, .ref m3, .ref m4, .int 0, .ref m5, .ref m6, .ref m7, .int 0, .ref m8, .ref m9, .ref m10, .int 0, .int 0, .ref m11, .ref m12, .ref m13, .int 0, .int 0, .ref m14, .int 0, .ref m15, .ref m16, .ref m17, .int 0, .int 0, .ref m18, .ref m19, .ref m20, .int 0, .ref m21]))] sz) [(h0, .inr (7, [.int 1, .ref m1, .int 0, .int 0, .int 0, .int 0, .int (-1), .int 0, .int 0, .ref m2, .ref m3, .ref m4, .int 0, .ref m5, .ref m6, .ref m7, .int 0, .ref m8, .ref m9, .ref m10, .int 0, .int 0, .ref m11, .ref m12, .ref m13, .int 0, .int 0, .ref m14, .int 0, .ref m15, .ref m16, .ref m17, .int 0, .int 0, .ref m18, .ref m19, .ref m20, .int 0, .ref m21]))]) (va_A [(h0, .inr (7, [.int 0, .ref m1, .int 0, .int 0, .int 0, .int 0, .int (-1), .int 0, .int 0, .ref m2, .ref m3, .ref m4, .int 0, .ref m5, .ref m6, .ref m7, .int 0, .ref m8, .ref m9, .ref m10, .int 0, .int 0, .ref m11, .ref m12, .ref m13, .int 0, .int 0, .ref m14, .int 0, .ref m15, .ref m16, .ref m17, .int 0, .int 0, .ref m18, .ref m19, .ref m20, .int 0, .ref m21]))] sz)) 0 0 (va_A [(h0, .inr (7, [.int 0, .ref m1, .int 0, .int 0, .int 0, .int 0, .int (-1), .int 0, .int 0, .ref m2, .ref m3, .ref m4, .int 0, .ref m5, .ref m6, .ref m7, .int 0, .ref m8, .ref m9, .ref m10, .int 0, .int 0, .ref m11, .ref m12, .ref m13, .int 0, .int 0, .ref m14, .int 0, .ref m15, .ref m16, .ref m17, .int 0, .int 0, .ref m18, .ref m19, .ref m20, .int 0, .ref m21]))] sz) := by
  refine Met.ofW (cc := cX7_feed) (maxL := 6) (ret := (some .int)) (by decide) rfl ?_
  intro p e s m args below meth c s₁ B hml hv
  obtain ⟨rfl, hsz, hP, hK, hD0⟩ := hv
  have hx := B.exec
  have hb := B.bytes
  have hr := B.returns
  have hw9 := atoms_spec (ws := (wd yX7_feed cX7_feed 6 (some .int))) B.pre
  have hg := gw_hts hw9
  have hown : s.vm.findClass RX7 = some m.cls := findClass_of_methodNamed B.named
  have hlocks := B.notSynchronized
  subst hsz
  have hD := hD0.self (sz := s.heap.size)
  generalize hAe : va_A [(h0, .inr (7, [.int 0, .ref m1, .int 0, .int 0, .int 0, .int 0, .int (-1), .int 0, .int 0, .ref m2, .ref m3, .ref m4, .int 0, .ref m5, .ref m6, .ref m7, .int 0, .ref m8, .ref m9, .ref m10, .int 0, .int 0, .ref m11, .ref m12, .ref m13, .int 0, .int 0, .ref m14, .int 0, .ref m15, .ref m16, .ref m17, .int 0, .int 0, .ref m18, .ref m19, .ref m20, .int 0, .ref m21]))] s.heap.size = A at hD ⊢
  have hA : ∀ q : Nat, s.heap.size ≤ q → A q := fun q h => by rw [← hAe]; exact Or.inr h
  have hS : va_S A s.heap s.heap [] := va_S.rf
  have hl := lv_entry ([.ref h0, .long b, .int x]) (n := 6) (Nat.le_of_ble_eq_true rfl)
  rw [lg_entry_eq]
  generalize (lg_sl ([.ref h0, .long b, .int x]) ++ List.replicate (6 - (lg_sl ([.ref h0, .long b, .int x])).length) Slot.unset).toArray = ls at hl ⊢
  have hl : lv_has ls 6 [(0, .ref h0), (1, .long b), (3, .int x)] := hl
  refine lv_iload_n hx hb dX7_feed_0 rfl (lv_at hl 2 rfl) ?_
  refine lv_iconst (v := 1) hx hb dX7_feed_1 (by decide) ?_
  refine lv_icmp_lt (tgt := 11) hx hb dX7_feed_2 (by decide) (fun _ => ?_) (fun c9 => absurd hn c9)
  refine lv_iconst (v := 1) hx hb dX7_feed_11 (by decide) ?_
  refine lv_goto (tgt := 16) hx hb dX7_feed_12 (by decide) ?_
  refine lv_istore (lv' := [(4, .int 1), (0, .ref h0), (1, .long b), (3, .int x)]) hx hb dX7_feed_16 hl (by decide) rfl (fun ls hl => ?_)
  refine lv_aload_n hx hb dX7_feed_18 rfl (lv_at hl 1 rfl) ?_
  refine lv_iload hx hb dX7_feed_19 (lv_at hl 0 rfl) ?_
  refine lv_iload hx hb dX7_feed_21 (lv_at hl 0 rfl) ?_
  refine lv_if_ne (tgt := 41) hx hb dX7_feed_23 (by decide) (fun _ => ?_) (fun c9 => absurd c9 (by decide))
  refine lv_iconst (v := 0) hx hb dX7_feed_41 (by decide) ?_
  have hPc := hP.sub (ws' := [(h0, .inr (7, [.int 0, .ref m1, .int 0, .int 0, .int 0, .int 0, .int (-1), .int 0, .int 0, .ref m2, .ref m3, .ref m4, .int 0, .ref m5, .ref m6, .ref m7, .int 0, .ref m8, .ref m9, .ref m10, .int 0, .int 0, .ref m11, .ref m12, .ref m13, .int 0, .int 0, .ref m14, .int 0, .ref m15, .ref m16, .ref m17, .int 0, .int 0, .ref m18, .ref m19, .ref m20, .int 0, .ref m21]))]) [0] rfl
  have hDc := hD.sub (ws' := [(h0, .inr (7, [.int 0, .ref m1, .int 0, .int 0, .int 0, .int 0, .int (-1), .int 0, .int 0, .ref m2, .ref m3, .ref m4, .int 0, .ref m5, .ref m6, .ref m7, .int 0, .ref m8, .ref m9, .ref m10, .int 0, .int 0, .ref m11, .ref m12, .ref m13, .int 0, .int 0, .ref m14, .int 0, .ref m15, .ref m16, .ref m17, .int 0, .int 0, .ref m18, .ref m19, .ref m20, .int 0, .ref m21]))]) [0] (by decide) rfl
  have hFc := va_free (wc := [(h0, .inr (7, [.int 0, .ref m1, .int 0, .int 0, .int 0, .int 0, .int (-1), .int 0, .int 0, .ref m2, .ref m3, .ref m4, .int 0, .ref m5, .ref m6, .ref m7, .int 0, .ref m8, .ref m9, .ref m10, .int 0, .int 0, .ref m11, .ref m12, .ref m13, .int 0, .int 0, .ref m14, .int 0, .ref m15, .ref m16, .ref m17, .int 0, .int 0, .ref m18, .ref m19, .ref m20, .int 0, .ref m21]))]) hD hS hA [0] rfl
  refine va_calli (va_runV (As := [.int 1, .int 0]) (rest := []) ⟨hx, hb, hml, hown, hg⟩ (c_thrA l dC dI cI cZ cL h0 (Array.size _) [.ref m1, .int 0, .int 0, .int 0, .int 0, .int (-1), .int 0, .int 0, .ref m2, .ref m3, .ref m4, .int 0, .ref m5, .ref m6, .ref m7, .int 0, .ref m8, .ref m9, .ref m10, .int 0, .int 0, .ref m11, .ref m12, .ref m13, .int 0, .int 0, .ref m14, .int 0, .ref m15, .ref m16, .ref m17, .int 0, .int 0, .ref m18, .ref m19, .ref m20, .int 0, .ref m21]) (cwV 2 hg (gw_V k_260 k_261 k_262 k_245 g_yX7_throwing) rfl rfl rfl (by decide +kernel) ⟨(Nat.le_of_ble_eq_true rfl), (Nat.le_of_ble_eq_true rfl)⟩) ⟨hp_bl, va_recv hK hPc (ci := 7) (q0 := 0) rfl rfl, fun U hU hW => hp_ok hU hW hPc hK hDc⟩ rfl rfl hl.1 rfl (lv_room (Nat.le_of_ble_eq_true rfl)) dX7_feed_42 ⟨(Nat.le_of_ble_eq_true rfl), (Nat.le_of_ble_eq_true rfl)⟩) hS (fun q _ h => hFc q h) hFc (fun r9 u t H locs ht hvm hw hB hz1 hk1 hS => ?_)
  obtain ⟨hP1, hD1⟩ := hB
  rw [ht] at hP1
  obtain ⟨hP, hD⟩ := va_join (wr := []) (w1 := [(h0, .inr (7, [.int 1, .ref m1, .int 0, .int 0, .int 0, .int 0, .int (-1), .int 0, .int 0, .ref m2, .ref m3, .ref m4, .int 0, .ref m5, .ref m6, .ref m7, .int 0, .ref m8, .ref m9, .ref m10, .int 0, .int 0, .ref m11, .ref m12, .ref m13, .int 0, .int 0, .ref m14, .int 0, .ref m15, .ref m16, .ref m17, .int 0, .int 0, .ref m18, .ref m19, .ref m20, .int 0, .ref m21]))]) hP hD [0] [] rfl rfl (by decide) (by decide) hk1 hFc hP1 hD1
  have hP : va_P (dC, dI) vwCl [(h0, .inr (7, [.int 1, .ref m1, .int 0, .int 0, .int 0, .int 0, .int (-1), .int 0, .int 0, .ref m2, .ref m3, .ref m4, .int 0, .ref m5, .ref m6, .ref m7, .int 0, .ref m8, .ref m9, .ref m10, .int 0, .int 0, .ref m11, .ref m12, .ref m13, .int 0, .int 0, .ref m14, .int 0, .ref m15, .ref m16, .ref m17, .int 0, .int 0, .ref m18, .ref m19, .ref m20, .int 0, .ref m21]))] H := hP
  have hD : va_D A [(h0, .inr (7, [.int 1, .ref m1, .int 0, .int 0, .int 0, .int 0, .int (-1), .int 0, .int 0, .ref m2, .ref m3, .ref m4, .int 0, .ref m5, .ref m6, .ref m7, .int 0, .ref m8, .ref m9, .ref m10, .int 0, .int 0, .ref m11, .ref m12, .ref m13, .int 0, .int 0, .ref m14, .int 0, .ref m15, .ref m16, .ref m17, .int 0, .int 0, .ref m18, .ref m19, .ref m20, .int 0, .ref m21]))] := hD
  refine W.widen (k := 0) (n := 0) (Nat.le_of_ble_eq_true rfl) (Nat.le_of_ble_eq_true rfl) ?_
  obtain rfl : r9 = 1 := hw
  refine lv_if_eq (tgt := 50) hx hb dX7_feed_45 (by decide) (fun c9 => absurd c9 (by decide)) (fun _ => ?_)
  refine lv_iconst (v := 0) hx hb dX7_feed_48 (by decide) ?_
  have hP9 := hP.sub (ws' := [(h0, .inr (7, [.int 1, .ref m1, .int 0, .int 0, .int 0, .int 0, .int (-1), .int 0, .int 0, .ref m2, .ref m3, .ref m4, .int 0, .ref m5, .ref m6, .ref m7, .int 0, .ref m8, .ref m9, .ref m10, .int 0, .int 0, .ref m11, .ref m12, .ref m13, .int 0, .int 0, .ref m14, .int 0, .ref m15, .ref m16, .ref m17, .int 0, .int 0, .ref m18, .ref m19, .ref m20, .int 0, .ref m21]))]) [0] rfl
  have hD9 := hD.sub (ws' := [(h0, .inr (7, [.int 1, .ref m1, .int 0, .int 0, .int 0, .int 0, .int (-1), .int 0, .int 0, .ref m2, .ref m3, .ref m4, .int 0, .ref m5, .ref m6, .ref m7, .int 0, .ref m8, .ref m9, .ref m10, .int 0, .int 0, .ref m11, .ref m12, .ref m13, .int 0, .int 0, .ref m14, .int 0, .ref m15, .ref m16, .ref m17, .int 0, .int 0, .ref m18, .ref m19, .ref m20, .int 0, .ref m21]))]) [0] (by decide) rfl
  refine W.widen (k := 0) (n := 0) (Nat.le_of_ble_eq_true rfl) (Nat.le_of_ble_eq_true rfl) ?_
  exact W.iret (v := 0) hx hb hr (fun t ht hW => ⟨⟨0, (), rfl, rfl, by rw [ht]; exact hP9, hD9⟩, hS.F ht⟩) hS.2.2 dX7_feed_49

set_option maxHeartbeats 4000000 in
set_option maxRecDepth 100000 in
/-- feed(.., n), n > 8 -/
theorem c_X7_feedH (l : Launch) (dC : Nat → ClassId) (dI : Nat → Nat → Nat) (cI cZ cL : ClassId) (h0 : Nat) (sz : Nat) (m1 m2 m3 m4 m5 m6 m7 m8 m9 m10 m11 m12 m13 m14 m15 m16 m17 m18 m19 m20 m21 : Nat) (b : Int64) (x : Int32) (hn : ¬ x < 1) (hm : ¬ x ≤ 8) : Met l yX7_feed (wd yX7_feed cX7_feed 6 (some .int)) ({ frames := 1, cells := 0, slots := 0, locals := 22 }) (va_Pc [.ref h0, .long b, .int x] (hp dC dI cI cZ cL sz [(h0, .inr (7, [.int 0, .ref m1, .int 0, .int 0, .int 0, .int 0, .int (-1), .int 0, .int 0, .ref m2, .ref m3, .ref m4, .int 0, .ref m5, .ref m6, .ref m7, .int 0, .ref m8, .ref m9, .ref m10, .int 0, .int 0, .ref m11, .ref m12, .ref m13, .int 0, .int 0, .ref m14, .int 0, .ref m15, .ref m16, .ref m17, .int 0, .int 0, .ref m18, .ref m19, .ref m20, .int 0, .ref m21]))])) (va_Qi (fun (r : Int32) (_ : Unit) => r = 0) (fun (_ : Unit) t => va_P (dC, dI) vwCl [(h0, .inr (7, [.int 1, .ref m1, .int 0, .int 0, .int 0, .int 0, .int (-1), .int 0, .int 0, .ref m2, .ref m3, .ref m4, .int 0, .ref m5, .ref m6, .ref m7, .int 0, .ref m8, .ref m9, .ref m10, .int 0, .int 0, .ref m11, .ref m12, .ref m13, .int 0, .int 0, .ref m14, .int 0, .ref m15, .ref m16, .ref m17, .int 0, .int 0, .ref m18, .ref m19, .ref m20, .int 0, .ref m21]))] t.heap ∧ va_D (va_A [(h0, .inr (7, [.int 0, .ref m1, .int 0, .int 0, .int 0, .int 0, .int (-1), .int 0, .int 0, .ref m2, .ref m3, .ref m4, .int 0, .ref m5, .ref m6, .ref m7, .int 0, .ref m8, .ref m9, .ref m10, .int 0, .int 0, .ref m11, .ref m12, .ref m13, .int 0, .int 0, .ref m14, .int 0, .ref m15, .ref m16, .ref m17, .int 0, .int 0, .ref m18, .ref m19, .ref m20, .int 0, .ref m21]))] sz) [(h0, .inr (7, [.int 1, .ref m1, .int 0, .int 0, .int 0, .int 0, .int (-1), .int 0, .int 0, .ref m2, .ref m3, .ref m4, .int 0, .ref m5, .ref m6, .ref m7, .int 0, .ref m8, .ref m9, .ref m10, .int 0, .int 0, .ref m11, .ref m12, .ref m13, .int 0, .int 0, .ref m14, .int 0, .ref m15, .ref m16, .ref m17, .int 0, .int 0, .ref m18, .ref m19, .ref m20, .int 0, .ref m21]))]) (va_A [(h0, .inr (7, [.int 0, .ref m1, .int 0, .int 0, .int 0, .int 0, .int (-1), .int 0, .int 0, .ref m2, .ref m3, .ref m4, .int 0, .ref m5, .ref m6, .ref m7, .int 0, .ref m8, .ref m9, .ref m10, .int 0, .int 0, .ref m11, .ref m12, .ref m13, .int 0, .int 0, .ref m14, .int 0, .ref m15, .ref m16, .ref m17, .int 0, .int 0, .ref m18, .ref m19, .ref m20, .int 0, .ref m21]))] sz)) 0 0 (va_A [(h0, .inr (7, [.int 0, .ref m1, .int 0, .int 0, .int 0, .int 0, .int (-1), .int 0, .int 0, .ref m2, .ref m3, .ref m4, .int 0, .ref m5, .ref m6, .ref m7, .int 0, .ref m8, .ref m9, .ref m10, .int 0, .int 0, .ref m11, .ref m12, .ref m13, .int 0, .int 0, .ref m14, .int 0, .ref m15, .ref m16, .ref m17, .int 0, .int 0, .ref m18, .ref m19, .ref m20, .int 0, .ref m21]))] sz) := by
  refine Met.ofW (cc := cX7_feed) (maxL := 6) (ret := (some .int)) (by decide) rfl ?_
  intro p e s m args below meth c s₁ B hml hv
  obtain ⟨rfl, hsz, hP, hK, hD0⟩ := hv
  have hx := B.exec
  have hb := B.bytes
  have hr := B.returns
  have hw9 := atoms_spec (ws := (wd yX7_feed cX7_feed 6 (some .int))) B.pre
  have hg := gw_hts hw9
  have hown : s.vm.findClass RX7 = some m.cls := findClass_of_methodNamed B.named
  have hlocks := B.notSynchronized
  subst hsz
  have hD := hD0.self (sz := s.heap.size)
  generalize hAe : va_A [(h0, .inr (7, [.int 0, .ref m1, .int 0, .int 0, .int 0, .int 0, .int (-1), .int 0, .int 0, .ref m2, .ref m3, .ref m4, .int 0, .ref m5, .ref m6, .ref m7, .int 0, .ref m8, .ref m9, .ref m10, .int 0, .int 0, .ref m11, .ref m12, .ref m13, .int 0, .int 0, .ref m14, .int 0, .ref m15, .ref m16, .ref m17, .int 0, .int 0, .ref m18, .ref m19, .ref m20, .int 0, .ref m21]))] s.heap.size = A at hD ⊢
  have hA : ∀ q : Nat, s.heap.size ≤ q → A q := fun q h => by rw [← hAe]; exact Or.inr h
  have hS : va_S A s.heap s.heap [] := va_S.rf
  have hl := lv_entry ([.ref h0, .long b, .int x]) (n := 6) (Nat.le_of_ble_eq_true rfl)
  rw [lg_entry_eq]
  generalize (lg_sl ([.ref h0, .long b, .int x]) ++ List.replicate (6 - (lg_sl ([.ref h0, .long b, .int x])).length) Slot.unset).toArray = ls at hl ⊢
  have hl : lv_has ls 6 [(0, .ref h0), (1, .long b), (3, .int x)] := hl
  refine lv_iload_n hx hb dX7_feed_0 rfl (lv_at hl 2 rfl) ?_
  refine lv_iconst (v := 1) hx hb dX7_feed_1 (by decide) ?_
  refine lv_icmp_lt (tgt := 11) hx hb dX7_feed_2 (by decide) (fun c9 => absurd c9 hn) (fun _ => ?_)
  refine lv_iload_n hx hb dX7_feed_5 rfl (lv_at hl 2 rfl) ?_
  refine lv_bipush (v := 8) hx hb dX7_feed_6 (by decide) ?_
  refine lv_icmp_le (tgt := 15) hx hb dX7_feed_8 (by decide) (fun c9 => absurd c9 hm) (fun _ => ?_)
  refine lv_iconst (v := 1) hx hb dX7_feed_11 (by decide) ?_
  refine lv_goto (tgt := 16) hx hb dX7_feed_12 (by decide) ?_
  refine lv_istore (lv' := [(4, .int 1), (0, .ref h0), (1, .long b), (3, .int x)]) hx hb dX7_feed_16 hl (by decide) rfl (fun ls hl => ?_)
  refine lv_aload_n hx hb dX7_feed_18 rfl (lv_at hl 1 rfl) ?_
  refine lv_iload hx hb dX7_feed_19 (lv_at hl 0 rfl) ?_
  refine lv_iload hx hb dX7_feed_21 (lv_at hl 0 rfl) ?_
  refine lv_if_ne (tgt := 41) hx hb dX7_feed_23 (by decide) (fun _ => ?_) (fun c9 => absurd c9 (by decide))
  refine lv_iconst (v := 0) hx hb dX7_feed_41 (by decide) ?_
  have hPc := hP.sub (ws' := [(h0, .inr (7, [.int 0, .ref m1, .int 0, .int 0, .int 0, .int 0, .int (-1), .int 0, .int 0, .ref m2, .ref m3, .ref m4, .int 0, .ref m5, .ref m6, .ref m7, .int 0, .ref m8, .ref m9, .ref m10, .int 0, .int 0, .ref m11, .ref m12, .ref m13, .int 0, .int 0, .ref m14, .int 0, .ref m15, .ref m16, .ref m17, .int 0, .int 0, .ref m18, .ref m19, .ref m20, .int 0, .ref m21]))]) [0] rfl
  have hDc := hD.sub (ws' := [(h0, .inr (7, [.int 0, .ref m1, .int 0, .int 0, .int 0, .int 0, .int (-1), .int 0, .int 0, .ref m2, .ref m3, .ref m4, .int 0, .ref m5, .ref m6, .ref m7, .int 0, .ref m8, .ref m9, .ref m10, .int 0, .int 0, .ref m11, .ref m12, .ref m13, .int 0, .int 0, .ref m14, .int 0, .ref m15, .ref m16, .ref m17, .int 0, .int 0, .ref m18, .ref m19, .ref m20, .int 0, .ref m21]))]) [0] (by decide) rfl
  have hFc := va_free (wc := [(h0, .inr (7, [.int 0, .ref m1, .int 0, .int 0, .int 0, .int 0, .int (-1), .int 0, .int 0, .ref m2, .ref m3, .ref m4, .int 0, .ref m5, .ref m6, .ref m7, .int 0, .ref m8, .ref m9, .ref m10, .int 0, .int 0, .ref m11, .ref m12, .ref m13, .int 0, .int 0, .ref m14, .int 0, .ref m15, .ref m16, .ref m17, .int 0, .int 0, .ref m18, .ref m19, .ref m20, .int 0, .ref m21]))]) hD hS hA [0] rfl
  refine va_calli (va_runV (As := [.int 1, .int 0]) (rest := []) ⟨hx, hb, hml, hown, hg⟩ (c_thrA l dC dI cI cZ cL h0 (Array.size _) [.ref m1, .int 0, .int 0, .int 0, .int 0, .int (-1), .int 0, .int 0, .ref m2, .ref m3, .ref m4, .int 0, .ref m5, .ref m6, .ref m7, .int 0, .ref m8, .ref m9, .ref m10, .int 0, .int 0, .ref m11, .ref m12, .ref m13, .int 0, .int 0, .ref m14, .int 0, .ref m15, .ref m16, .ref m17, .int 0, .int 0, .ref m18, .ref m19, .ref m20, .int 0, .ref m21]) (cwV 2 hg (gw_V k_260 k_261 k_262 k_245 g_yX7_throwing) rfl rfl rfl (by decide +kernel) ⟨(Nat.le_of_ble_eq_true rfl), (Nat.le_of_ble_eq_true rfl)⟩) ⟨hp_bl, va_recv hK hPc (ci := 7) (q0 := 0) rfl rfl, fun U hU hW => hp_ok hU hW hPc hK hDc⟩ rfl rfl hl.1 rfl (lv_room (Nat.le_of_ble_eq_true rfl)) dX7_feed_42 ⟨(Nat.le_of_ble_eq_true rfl), (Nat.le_of_ble_eq_true rfl)⟩) hS (fun q _ h => hFc q h) hFc (fun r9 u t H locs ht hvm hw hB hz1 hk1 hS => ?_)
  obtain ⟨hP1, hD1⟩ := hB
  rw [ht] at hP1
  obtain ⟨hP, hD⟩ := va_join (wr := []) (w1 := [(h0, .inr (7, [.int 1, .ref m1, .int 0, .int 0, .int 0, .int 0, .int (-1), .int 0, .int 0, .ref m2, .ref m3, .ref m4, .int 0, .ref m5, .ref m6, .ref m7, .int 0, .ref m8, .ref m9, .ref m10, .int 0, .int 0, .ref m11, .ref m12, .ref m13, .int 0, .int 0, .ref m14, .int 0, .ref m15, .ref m16, .ref m17, .int 0, .int 0, .ref m18, .ref m19, .ref m20, .int 0, .ref m21]))]) hP hD [0] [] rfl rfl (by decide) (by decide) hk1 hFc hP1 hD1
  have hP : va_P (dC, dI) vwCl [(h0, .inr (7, [.int 1, .ref m1, .int 0, .int 0, .int 0, .int 0, .int (-1), .int 0, .int 0, .ref m2, .ref m3, .ref m4, .int 0, .ref m5, .ref m6, .ref m7, .int 0, .ref m8, .ref m9, .ref m10, .int 0, .int 0, .ref m11, .ref m12, .ref m13, .int 0, .int 0, .ref m14, .int 0, .ref m15, .ref m16, .ref m17, .int 0, .int 0, .ref m18, .ref m19, .ref m20, .int 0, .ref m21]))] H := hP
  have hD : va_D A [(h0, .inr (7, [.int 1, .ref m1, .int 0, .int 0, .int 0, .int 0, .int (-1), .int 0, .int 0, .ref m2, .ref m3, .ref m4, .int 0, .ref m5, .ref m6, .ref m7, .int 0, .ref m8, .ref m9, .ref m10, .int 0, .int 0, .ref m11, .ref m12, .ref m13, .int 0, .int 0, .ref m14, .int 0, .ref m15, .ref m16, .ref m17, .int 0, .int 0, .ref m18, .ref m19, .ref m20, .int 0, .ref m21]))] := hD
  refine W.widen (k := 0) (n := 0) (Nat.le_of_ble_eq_true rfl) (Nat.le_of_ble_eq_true rfl) ?_
  obtain rfl : r9 = 1 := hw
  refine lv_if_eq (tgt := 50) hx hb dX7_feed_45 (by decide) (fun c9 => absurd c9 (by decide)) (fun _ => ?_)
  refine lv_iconst (v := 0) hx hb dX7_feed_48 (by decide) ?_
  have hP9 := hP.sub (ws' := [(h0, .inr (7, [.int 1, .ref m1, .int 0, .int 0, .int 0, .int 0, .int (-1), .int 0, .int 0, .ref m2, .ref m3, .ref m4, .int 0, .ref m5, .ref m6, .ref m7, .int 0, .ref m8, .ref m9, .ref m10, .int 0, .int 0, .ref m11, .ref m12, .ref m13, .int 0, .int 0, .ref m14, .int 0, .ref m15, .ref m16, .ref m17, .int 0, .int 0, .ref m18, .ref m19, .ref m20, .int 0, .ref m21]))]) [0] rfl
  have hD9 := hD.sub (ws' := [(h0, .inr (7, [.int 1, .ref m1, .int 0, .int 0, .int 0, .int 0, .int (-1), .int 0, .int 0, .ref m2, .ref m3, .ref m4, .int 0, .ref m5, .ref m6, .ref m7, .int 0, .ref m8, .ref m9, .ref m10, .int 0, .int 0, .ref m11, .ref m12, .ref m13, .int 0, .int 0, .ref m14, .int 0, .ref m15, .ref m16, .ref m17, .int 0, .int 0, .ref m18, .ref m19, .ref m20, .int 0, .ref m21]))]) [0] (by decide) rfl
  refine W.widen (k := 0) (n := 0) (Nat.le_of_ble_eq_true rfl) (Nat.le_of_ble_eq_true rfl) ?_
  exact W.iret (v := 0) hx hb hr (fun t ht hW => ⟨⟨0, (), rfl, rfl, by rw [ht]; exact hP9, hD9⟩, hS.F ht⟩) hS.2.2 dX7_feed_49

/-- the reference's count-down: behind m bytes still to come it stands at m - 1 -/
def sk : Nat → Int32 | 0 => -1 | k + 1 => nI k
theorem sk_lt : ∀ k, k < 9 → ¬ sk (k + 1) < 0 := by decide
theorem sk_st : ∀ k, k < 9 → sk (k + 1) + Int32.ofInt (-1) = sk k := by decide
theorem sk_in : ∀ j, j < 9 → 0 < j → nI j - 1 = sk j := by decide
theorem sj_lo : ∀ j, j < 9 → 0 < j → ¬ nI j < 1 := by decide
theorem sj_hi : ∀ j, j < 9 → nI j ≤ 8 := by decide
theorem sj_60 : ∀ j, j < 9 → 0 + nI j ≤ 60 := by decide

set_option maxHeartbeats 4000000 in
set_option maxRecDepth 100000 in
theorem lp_feed7 {p : Program} {l : Launch} {e : Env} {R : Room} {s : State} {m : MethodId} {args : Array Value} {below : List Frame} {meth : Method} {c : Code} {Q : State → Prop} {cells slots : Nat} {dC : Nat → ClassId} {dI : Nat → Nat → Nat} {cI cZ cL : ClassId} {A : Nat → Prop} {h0 m1 m2 m3 m4 m5 m6 m7 m8 m9 m10 m11 m12 m13 m14 m15 m16 m17 m18 m19 m20 m21 : Nat} {b : Int64} {x : Int32} {j : Nat} (hj : j < 9) (hx : p.tables.exec = Jvm.exec) (hb : c.code = cX7_feed) (hg : ∀ w ∈ gw_all, w.before args s = true) (hown : s.vm.findClass RX7 = some m.cls) (hK : va_K (dC, dI) vwCl (t3 cI cZ cL) s)
    (kk : ∀ (f : Nat → Int32) (H : Heap) (locs : List Loc) (ls : Array Slot), va_P (dC, dI) vwCl [(h0, .inr (7, [.int 0, .ref m1, .int (nI j), .int 0, .int 0, .int 0, .int (-1), .int 0, .int 0, .ref m2, .ref m3, .ref m4, .int 0, .ref m5, .ref m6, .ref m7, .int 0, .ref m8, .ref m9, .ref m10, .int 0, .int 0, .ref m11, .ref m12, .ref m13, .int 0, .int 0, .ref m14, .int 0, .ref m15, .ref m16, .ref m17, .int 0, .int 0, .ref m18, .ref m19, .ref m20, .int 0, .ref m21])), (m1, .inl (cI, 60, .inl f))] H → va_D A [(h0, .inr (7, [.int 0, .ref m1, .int (nI j), .int 0, .int 0, .int 0, .int (-1), .int 0, .int 0, .ref m2, .ref m3, .ref m4, .int 0, .ref m5, .ref m6, .ref m7, .int 0, .ref m8, .ref m9, .ref m10, .int 0, .int 0, .ref m11, .ref m12, .ref m13, .int 0, .int 0, .ref m14, .int 0, .ref m15, .ref m16, .ref m17, .int 0, .int 0, .ref m18, .ref m19, .ref m20, .int 0, .ref m21])), (m1, .inl (cI, 60, .inl f))] → va_S A s.heap H locs → lv_has ls 6 [(0, .ref h0)] → W p l e R s m args below meth c H locs cells slots Q (F0 m 97 ls [])) :
    ∀ (k i : Nat), i + k = j → ∀ (f : Nat → Int32) (H : Heap) (locs : List Loc) (ls : Array Slot), va_P (dC, dI) vwCl [(h0, .inr (7, [.int 0, .ref m1, .int (nI i), .int 0, .int 0, .int 0, .int (-1), .int 0, .int 0, .ref m2, .ref m3, .ref m4, .int 0, .ref m5, .ref m6, .ref m7, .int 0, .ref m8, .ref m9, .ref m10, .int 0, .int 0, .ref m11, .ref m12, .ref m13, .int 0, .int 0, .ref m14, .int 0, .ref m15, .ref m16, .ref m17, .int 0, .int 0, .ref m18, .ref m19, .ref m20, .int 0, .ref m21])), (m1, .inl (cI, 60, .inl f))] H → va_D A [(h0, .inr (7, [.int 0, .ref m1, .int (nI i), .int 0, .int 0, .int 0, .int (-1), .int 0, .int 0, .ref m2, .ref m3, .ref m4, .int 0, .ref m5, .ref m6, .ref m7, .int 0, .ref m8, .ref m9, .ref m10, .int 0, .int 0, .ref m11, .ref m12, .ref m13, .int 0, .int 0, .ref m14, .int 0, .ref m15, .ref m16, .ref m17, .int 0, .int 0, .ref m18, .ref m19, .ref m20, .int 0, .ref m21])), (m1, .inl (cI, 60, .inl f))] → va_S A s.heap H locs → lv_has ls 6 [(0, .ref h0), (1, .long b), (3, .int x), (5, .int (sk k))] → W p l e R s m args below meth c H locs cells slots Q (F0 m 55 ls []) := by
  intro k
  induction k with
  | zero =>
    intro i hi f H locs ls hP hD hS hl
    obtain rfl : i = j := by omega
    refine lv_iload hx hb dX7_feed_55 (lv_at hl 3 rfl) ?_
    exact lv_if_lt (tgt := 97) hx hb dX7_feed_57 (by decide) (fun _ => kk f H locs ls hP hD hS (lv_sub hl [0] rfl)) (fun c9 => absurd (by decide) c9)
  | succ k ih =>
    intro i hi f H locs ls hP hD hS hl
    refine lv_iload hx hb dX7_feed_55 (lv_at hl 3 rfl) ?_
    refine lv_if_lt (tgt := 97) hx hb dX7_feed_57 (by decide) (fun c9 => absurd c9 (sk_lt k (by omega))) (fun _ => ?_)
    refine lv_aload_n hx hb dX7_feed_60 rfl (lv_at hl 0 rfl) ?_
    refine va_get (D := (dC, dI)) (ci := 7) (v := .ref m1) (C := RX7) (T := TX7) (N := 39) hx hb hg i_X7 hown hK hP 0 rfl rfl 1 (by decide) (hg _ k_98) (fun _ h9 => h9) rfl dX7_feed_61 ?_
    refine lv_aload_n hx hb dX7_feed_64 rfl (lv_at hl 0 rfl) ?_
    refine va_get (D := (dC, dI)) (ci := 7) (v := .int (nI i)) (C := RX7) (T := TX7) (N := 39) hx hb hg i_X7 hown hK hP 0 rfl rfl 2 (by decide) (hg _ k_231) (fun _ h9 => h9) rfl dX7_feed_65 ?_
    refine lv_lload_n hx hb dX7_feed_68 rfl (lv_at hl 1 rfl) ?_
    refine lv_bipush (v := 8) hx hb dX7_feed_69 (by decide) ?_
    refine lv_iload hx hb dX7_feed_71 (lv_at hl 3 rfl) ?_
    refine lv_imul hx hb dX7_feed_73 ?_
    refine lv_topi (fun z1 ez1 => ?_)
    refine lv_lshr hx hb dX7_feed_74 rfl ?_
    refine lv_topl (fun z2 ez2 => ?_)
    refine lv_l2i hx hb dX7_feed_75 rfl ?_
    refine lv_topi (fun z3 ez3 => ?_)
    refine lv_sipush (v := 255) hx hb dX7_feed_76 (by decide) ?_
    refine lv_iand hx hb dX7_feed_79 ?_
    refine lv_topi (fun z4 ez4 => ?_)
    refine va_iast hx hb hK hP hD hS 1 0 rfl rfl (vp_in_nI (by omega) (by omega)) dX7_feed_80 (fun H locs hP hD hS => ?_)
    generalize upd f (Int32.toNatClampNeg (nI i)) (z4 : Int32) = f5 at hP hD
    have hP : va_P (dC, dI) vwCl [(h0, .inr (7, [.int 0, .ref m1, .int (nI i), .int 0, .int 0, .int 0, .int (-1), .int 0, .int 0, .ref m2, .ref m3, .ref m4, .int 0, .ref m5, .ref m6, .ref m7, .int 0, .ref m8, .ref m9, .ref m10, .int 0, .int 0, .ref m11, .ref m12, .ref m13, .int 0, .int 0, .ref m14, .int 0, .ref m15, .ref m16, .ref m17, .int 0, .int 0, .ref m18, .ref m19, .ref m20, .int 0, .ref m21])), (m1, .inl (cI, 60, .inl f5))] H := hP
    have hD : va_D A [(h0, .inr (7, [.int 0, .ref m1, .int (nI i), .int 0, .int 0, .int 0, .int (-1), .int 0, .int 0, .ref m2, .ref m3, .ref m4, .int 0, .ref m5, .ref m6, .ref m7, .int 0, .ref m8, .ref m9, .ref m10, .int 0, .int 0, .ref m11, .ref m12, .ref m13, .int 0, .int 0, .ref m14, .int 0, .ref m15, .ref m16, .ref m17, .int 0, .int 0, .ref m18, .ref m19, .ref m20, .int 0, .ref m21])), (m1, .inl (cI, 60, .inl f5))] := hD
    refine lv_aload_n hx hb dX7_feed_81 rfl (lv_at hl 0 rfl) ?_
    refine lv_dup hx hb dX7_feed_82 rfl ?_
    refine va_get (D := (dC, dI)) (ci := 7) (v := .int (nI i)) (C := RX7) (T := TX7) (N := 39) hx hb hg i_X7 hown hK hP 0 rfl rfl 2 (by decide) (hg _ k_231) (fun _ h9 => h9) rfl dX7_feed_83 ?_
    refine lv_iconst (v := 1) hx hb dX7_feed_86 (by decide) ?_
    refine lv_iadd hx hb dX7_feed_87 ?_
    refine lv_topi (fun z6 ez6 => ?_)
    obtain rfl : z6 = nI (i + 1) := ez6.trans (nI_1 i)
    refine va_put (D := (dC, dI)) (ci := 7) (v := .int (nI (i + 1))) (ty := .int) (C := RX7) (T := TX7) (N := 39) hx hb hg i_X7 tyX7 tyX7_ok nmX7 hown hK hP hD hS 0 rfl rfl 2 (by decide) (hg _ k_231) (fun _ h9 => h9) rfl (by decide +kernel) rfl rfl (Nat.le_of_ble_eq_true rfl) dX7_feed_88 (fun H locs hP hD hS => ?_)
    have hP : va_P (dC, dI) vwCl [(h0, .inr (7, [.int 0, .ref m1, .int (nI (i + 1)), .int 0, .int 0, .int 0, .int (-1), .int 0, .int 0, .ref m2, .ref m3, .ref m4, .int 0, .ref m5, .ref m6, .ref m7, .int 0, .ref m8, .ref m9, .ref m10, .int 0, .int 0, .ref m11, .ref m12, .ref m13, .int 0, .int 0, .ref m14, .int 0, .ref m15, .ref m16, .ref m17, .int 0, .int 0, .ref m18, .ref m19, .ref m20, .int 0, .ref m21])), (m1, .inl (cI, 60, .inl f5))] H := hP
    have hD : va_D A [(h0, .inr (7, [.int 0, .ref m1, .int (nI (i + 1)), .int 0, .int 0, .int 0, .int (-1), .int 0, .int 0, .ref m2, .ref m3, .ref m4, .int 0, .ref m5, .ref m6, .ref m7, .int 0, .ref m8, .ref m9, .ref m10, .int 0, .int 0, .ref m11, .ref m12, .ref m13, .int 0, .int 0, .ref m14, .int 0, .ref m15, .ref m16, .ref m17, .int 0, .int 0, .ref m18, .ref m19, .ref m20, .int 0, .ref m21])), (m1, .inl (cI, 60, .inl f5))] := hD
    refine lv_iinc (v := sk k) (lv' := [(5, .int (sk k)), (0, .ref h0), (1, .long b), (3, .int x)]) hx hb dX7_feed_91 hl (k := 3) rfl (sk_st k (by omega)) (by decide) rfl (fun ls hl => ?_)
    refine lv_goto (tgt := 55) hx hb dX7_feed_94 (by decide) ?_
    exact ih (i + 1) (by omega) _ H locs ls hP hD hS (lv_sub hl [1, 2, 3, 0] rfl)

set_option maxHeartbeats 4000000 in
set_option maxRecDepth 100000 in
/-- feed(.., n), 1 <= n <= 8 -/
theorem c_X7_feedG (l : Launch) (dC : Nat → ClassId) (dI : Nat → Nat → Nat) (cI cZ cL : ClassId) (h0 m1 : Nat) (sz : Nat) (m2 m3 m4 m5 m6 m7 m8 m9 m10 m11 m12 m13 m14 m15 m16 m17 m18 m19 m20 m21 : Nat) (b : Int64) (j : Nat) (hj : j < 9) (h1 : 0 < j) : Met l yX7_feed (wd yX7_feed cX7_feed 6 (some .int)) ({ frames := 1, cells := 0, slots := 0, locals := 22 }) (va_Pc [.ref h0, .long b, .int (nI j)] (hp dC dI cI cZ cL sz [(h0, .inr (7, [.int 0, .ref m1, .int 0, .int 0, .int 0, .int 0, .int (-1), .int 0, .int 0, .ref m2, .ref m3, .ref m4, .int 0, .ref m5, .ref m6, .ref m7, .int 0, .ref m8, .ref m9, .ref m10, .int 0, .int 0, .ref m11, .ref m12, .ref m13, .int 0, .int 0, .ref m14, .int 0, .ref m15, .ref m16, .ref m17, .int 0, .int 0, .ref m18, .ref m19, .ref m20, .int 0, .ref m21])), (m1, .inl (cI, 60, .inl zI))])) (va_Qi (fun (r : Int32) (_ : Unit) => r = nI j) (fun (_ : Unit) t => va_P (dC, dI) vwCl [(h0, .inr (7, [.int 0, .ref m1, .int (nI j), .int 0, .int 0, .int 0, .int (-1), .int 0, .int 0, .ref m2, .ref m3, .ref m4, .int 0, .ref m5, .ref m6, .ref m7, .int 0, .ref m8, .ref m9, .ref m10, .int 0, .int 0, .ref m11, .ref m12, .ref m13, .int 0, .int 0, .ref m14, .int 0, .ref m15, .ref m16, .ref m17, .int 0, .int 0, .ref m18, .ref m19, .ref m20, .int 0, .ref m21]))] t.heap ∧ va_D (va_A [(h0, .inr (7, [.int 0, .ref m1, .int 0, .int 0, .int 0, .int 0, .int (-1), .int 0, .int 0, .ref m2, .ref m3, .ref m4, .int 0, .ref m5, .ref m6, .ref m7, .int 0, .ref m8, .ref m9, .ref m10, .int 0, .int 0, .ref m11, .ref m12, .ref m13, .int 0, .int 0, .ref m14, .int 0, .ref m15, .ref m16, .ref m17, .int 0, .int 0, .ref m18, .ref m19, .ref m20, .int 0, .ref m21])), (m1, .inl (cI, 60, .inl zI))] sz) [(h0, .inr (7, [.int 0, .ref m1, .int (nI j), .int 0, .int 0, .int 0, .int (-1), .int 0, .int 0, .ref m2, .ref m3, .ref m4, .int 0, .ref m5, .ref m6, .ref m7, .int 0, .ref m8, .ref m9, .ref m10, .int 0, .int 0, .ref m11, .ref m12, .ref m13, .int 0, .int 0, .ref m14, .int 0, .ref m15, .ref m16, .ref m17, .int 0, .int 0, .ref m18, .ref m19, .ref m20, .int 0, .ref m21]))]) (va_A [(h0, .inr (7, [.int 0, .ref m1, .int 0, .int 0, .int 0, .int 0, .int (-1), .int 0, .int 0, .ref m2, .ref m3, .ref m4, .int 0, .ref m5, .ref m6, .ref m7, .int 0, .ref m8, .ref m9, .ref m10, .int 0, .int 0, .ref m11, .ref m12, .ref m13, .int 0, .int 0, .ref m14, .int 0, .ref m15, .ref m16, .ref m17, .int 0, .int 0, .ref m18, .ref m19, .ref m20, .int 0, .ref m21])), (m1, .inl (cI, 60, .inl zI))] sz)) 0 0 (va_A [(h0, .inr (7, [.int 0, .ref m1, .int 0, .int 0, .int 0, .int 0, .int (-1), .int 0, .int 0, .ref m2, .ref m3, .ref m4, .int 0, .ref m5, .ref m6, .ref m7, .int 0, .ref m8, .ref m9, .ref m10, .int 0, .int 0, .ref m11, .ref m12, .ref m13, .int 0, .int 0, .ref m14, .int 0, .ref m15, .ref m16, .ref m17, .int 0, .int 0, .ref m18, .ref m19, .ref m20, .int 0, .ref m21])), (m1, .inl (cI, 60, .inl zI))] sz) := by
  refine Met.ofW (cc := cX7_feed) (maxL := 6) (ret := (some .int)) (by decide) rfl ?_
  intro p e s m args below meth c s₁ B hml hv
  obtain ⟨rfl, hsz, hP, hK, hD0⟩ := hv
  have hx := B.exec
  have hb := B.bytes
  have hr := B.returns
  have hw9 := atoms_spec (ws := (wd yX7_feed cX7_feed 6 (some .int))) B.pre
  have hg := gw_hts hw9
  have hown : s.vm.findClass RX7 = some m.cls := findClass_of_methodNamed B.named
  have hlocks := B.notSynchronized
  subst hsz
  have hD := hD0.self (sz := s.heap.size)
  generalize hAe : va_A [(h0, .inr (7, [.int 0, .ref m1, .int 0, .int 0, .int 0, .int 0, .int (-1), .int 0, .int 0, .ref m2, .ref m3, .ref m4, .int 0, .ref m5, .ref m6, .ref m7, .int 0, .ref m8, .ref m9, .ref m10, .int 0, .int 0, .ref m11, .ref m12, .ref m13, .int 0, .int 0, .ref m14, .int 0, .ref m15, .ref m16, .ref m17, .int 0, .int 0, .ref m18, .ref m19, .ref m20, .int 0, .ref m21])), (m1, .inl (cI, 60, .inl zI))] s.heap.size = A at hD ⊢
  have hA : ∀ q : Nat, s.heap.size ≤ q → A q := fun q h => by rw [← hAe]; exact Or.inr h
  have hS : va_S A s.heap s.heap [] := va_S.rf
  have hl := lv_entry ([.ref h0, .long b, .int (nI j)]) (n := 6) (Nat.le_of_ble_eq_true rfl)
  rw [lg_entry_eq]
  generalize (lg_sl ([.ref h0, .long b, .int (nI j)]) ++ List.replicate (6 - (lg_sl ([.ref h0, .long b, .int (nI j)])).length) Slot.unset).toArray = ls at hl ⊢
  have hl : lv_has ls 6 [(0, .ref h0), (1, .long b), (3, .int (nI j))] := hl
  refine lv_iload_n hx hb dX7_feed_0 rfl (lv_at hl 2 rfl) ?_
  refine lv_iconst (v := 1) hx hb dX7_feed_1 (by decide) ?_
  refine lv_icmp_lt (tgt := 11) hx hb dX7_feed_2 (by decide) (fun c9 => absurd c9 (sj_lo j hj h1)) (fun _ => ?_)
  refine lv_iload_n hx hb dX7_feed_5 rfl (lv_at hl 2 rfl) ?_
  refine lv_bipush (v := 8) hx hb dX7_feed_6 (by decide) ?_
  refine lv_icmp_le (tgt := 15) hx hb dX7_feed_8 (by decide) (fun _ => ?_) (fun c9 => absurd (sj_hi j hj) c9)
  refine lv_iconst (v := 0) hx hb dX7_feed_15 (by decide) ?_
  refine lv_istore (lv' := [(4, .int 0), (0, .ref h0), (1, .long b), (3, .int (nI j))]) hx hb dX7_feed_16 hl (by decide) rfl (fun ls hl => ?_)
  refine lv_aload_n hx hb dX7_feed_18 rfl (lv_at hl 1 rfl) ?_
  refine lv_iload hx hb dX7_feed_19 (lv_at hl 0 rfl) ?_
  refine lv_iload hx hb dX7_feed_21 (lv_at hl 0 rfl) ?_
  refine lv_if_ne (tgt := 41) hx hb dX7_feed_23 (by decide) (fun c9 => absurd c9 (by decide)) (fun _ => ?_)
  refine lv_aload_n hx hb dX7_feed_26 rfl (lv_at hl 1 rfl) ?_
  refine va_get (D := (dC, dI)) (ci := 7) (v := .int 0) (C := RX7) (T := TX7) (N := 39) hx hb hg i_X7 hown hK hP 0 rfl rfl 2 (by decide) (hg _ k_231) (fun _ h9 => h9) rfl dX7_feed_27 ?_
  refine lv_iload_n hx hb dX7_feed_30 rfl (lv_at hl 3 rfl) ?_
  refine lv_iadd hx hb dX7_feed_31 ?_
  refine lv_topi (fun z1 ez1 => ?_)
  refine lv_bipush (v := 60) hx hb dX7_feed_32 (by decide) ?_
  refine lv_icmp_le (tgt := 41) hx hb dX7_feed_34 (by decide) (fun _ => ?_) (fun c9 => absurd (by rw [ez1]; exact sj_60 j hj) c9)
  refine lv_iconst (v := 0) hx hb dX7_feed_41 (by decide) ?_
  have hPc := hP.sub (ws' := [(h0, .inr (7, [.int 0, .ref m1, .int 0, .int 0, .int 0, .int 0, .int (-1), .int 0, .int 0, .ref m2, .ref m3, .ref m4, .int 0, .ref m5, .ref m6, .ref m7, .int 0, .ref m8, .ref m9, .ref m10, .int 0, .int 0, .ref m11, .ref m12, .ref m13, .int 0, .int 0, .ref m14, .int 0, .ref m15, .ref m16, .ref m17, .int 0, .int 0, .ref m18, .ref m19, .ref m20, .int 0, .ref m21]))]) [0] rfl
  have hDc := hD.sub (ws' := [(h0, .inr (7, [.int 0, .ref m1, .int 0, .int 0, .int 0, .int 0, .int (-1), .int 0, .int 0, .ref m2, .ref m3, .ref m4, .int 0, .ref m5, .ref m6, .ref m7, .int 0, .ref m8, .ref m9, .ref m10, .int 0, .int 0, .ref m11, .ref m12, .ref m13, .int 0, .int 0, .ref m14, .int 0, .ref m15, .ref m16, .ref m17, .int 0, .int 0, .ref m18, .ref m19, .ref m20, .int 0, .ref m21]))]) [0] (by decide) rfl
  have hFc := va_free (wc := [(h0, .inr (7, [.int 0, .ref m1, .int 0, .int 0, .int 0, .int 0, .int (-1), .int 0, .int 0, .ref m2, .ref m3, .ref m4, .int 0, .ref m5, .ref m6, .ref m7, .int 0, .ref m8, .ref m9, .ref m10, .int 0, .int 0, .ref m11, .ref m12, .ref m13, .int 0, .int 0, .ref m14, .int 0, .ref m15, .ref m16, .ref m17, .int 0, .int 0, .ref m18, .ref m19, .ref m20, .int 0, .ref m21]))]) hD hS hA [0] rfl
  refine va_calli (va_runV (As := [.int 0, .int 0]) (rest := []) ⟨hx, hb, hml, hown, hg⟩ (c_thrB l dC dI cI cZ cL h0 (Array.size _) [.ref m1, .int 0, .int 0, .int 0, .int 0, .int (-1), .int 0, .int 0, .ref m2, .ref m3, .ref m4, .int 0, .ref m5, .ref m6, .ref m7, .int 0, .ref m8, .ref m9, .ref m10, .int 0, .int 0, .ref m11, .ref m12, .ref m13, .int 0, .int 0, .ref m14, .int 0, .ref m15, .ref m16, .ref m17, .int 0, .int 0, .ref m18, .ref m19, .ref m20, .int 0, .ref m21]) (cwV 2 hg (gw_V k_260 k_261 k_262 k_245 g_yX7_throwing) rfl rfl rfl (by decide +kernel) ⟨(Nat.le_of_ble_eq_true rfl), (Nat.le_of_ble_eq_true rfl)⟩) ⟨hp_bl, va_recv hK hPc (ci := 7) (q0 := 0) rfl rfl, fun U hU hW => hp_ok hU hW hPc hK hDc⟩ rfl rfl hl.1 rfl (lv_room (Nat.le_of_ble_eq_true rfl)) dX7_feed_42 ⟨(Nat.le_of_ble_eq_true rfl), (Nat.le_of_ble_eq_true rfl)⟩) hS (fun q _ h => hFc q h) hFc (fun r9 u t H locs ht hvm hw hB hz1 hk1 hS => ?_)
  obtain ⟨hP1, hD1⟩ := hB
  rw [ht] at hP1
  obtain ⟨hP, hD⟩ := va_join (wr := [(m1, .inl (cI, 60, .inl zI))]) (w1 := [(h0, .inr (7, [.int 0, .ref m1, .int 0, .int 0, .int 0, .int 0, .int (-1), .int 0, .int 0, .ref m2, .ref m3, .ref m4, .int 0, .ref m5, .ref m6, .ref m7, .int 0, .ref m8, .ref m9, .ref m10, .int 0, .int 0, .ref m11, .ref m12, .ref m13, .int 0, .int 0, .ref m14, .int 0, .ref m15, .ref m16, .ref m17, .int 0, .int 0, .ref m18, .ref m19, .ref m20, .int 0, .ref m21]))]) hP hD [0] [1] rfl rfl (by decide) (by decide) hk1 hFc hP1 hD1
  have hP : va_P (dC, dI) vwCl [(m1, .inl (cI, 60, .inl zI)), (h0, .inr (7, [.int 0, .ref m1, .int 0, .int 0, .int 0, .int 0, .int (-1), .int 0, .int 0, .ref m2, .ref m3, .ref m4, .int 0, .ref m5, .ref m6, .ref m7, .int 0, .ref m8, .ref m9, .ref m10, .int 0, .int 0, .ref m11, .ref m12, .ref m13, .int 0, .int 0, .ref m14, .int 0, .ref m15, .ref m16, .ref m17, .int 0, .int 0, .ref m18, .ref m19, .ref m20, .int 0, .ref m21]))] H := hP
  have hD : va_D A [(m1, .inl (cI, 60, .inl zI)), (h0, .inr (7, [.int 0, .ref m1, .int 0, .int 0, .int 0, .int 0, .int (-1), .int 0, .int 0, .ref m2, .ref m3, .ref m4, .int 0, .ref m5, .ref m6, .ref m7, .int 0, .ref m8, .ref m9, .ref m10, .int 0, .int 0, .ref m11, .ref m12, .ref m13, .int 0, .int 0, .ref m14, .int 0, .ref m15, .ref m16, .ref m17, .int 0, .int 0, .ref m18, .ref m19, .ref m20, .int 0, .ref m21]))] := hD
  refine W.widen (k := 0) (n := 0) (Nat.le_of_ble_eq_true rfl) (Nat.le_of_ble_eq_true rfl) ?_
  obtain rfl : r9 = 0 := hw
  refine lv_if_eq (tgt := 50) hx hb dX7_feed_45 (by decide) (fun _ => ?_) (fun c9 => absurd (by decide) c9)
  refine lv_iload_n hx hb dX7_feed_50 rfl (lv_at hl 3 rfl) ?_
  refine lv_iconst (v := 1) hx hb dX7_feed_51 (by decide) ?_
  refine lv_isub hx hb dX7_feed_52 ?_
  refine lv_topi (fun z2 ez2 => ?_)
  obtain rfl : z2 = sk j := ez2.trans (sk_in j hj h1)
  refine lv_istore (lv' := [(5, .int (sk j)), (4, .int 0), (0, .ref h0), (1, .long b), (3, .int (nI j))]) hx hb dX7_feed_53 hl (by decide) rfl (fun ls hl => ?_)
  refine W.widen (k := 0) (n := 0) (Nat.le_of_ble_eq_true rfl) (Nat.le_of_ble_eq_true rfl) ?_
  refine lp_feed7 hj hx hb hg hown hK (fun f H locs ls hP hD hS hl => ?_) j 0 (Nat.zero_add j) zI _ _ ls (hP.sub [1, 0] rfl) (hD.sub [1, 0] (by decide) rfl) hS (lv_sub hl [2, 3, 4, 0] rfl)
  refine lv_aload_n hx hb dX7_feed_97 rfl (lv_at hl 0 rfl) ?_
  refine va_get (D := (dC, dI)) (ci := 7) (v := .int (nI j)) (C := RX7) (T := TX7) (N := 39) hx hb hg i_X7 hown hK hP 0 rfl rfl 2 (by decide) (hg _ k_231) (fun _ h9 => h9) rfl dX7_feed_98 ?_
  have hP9 := hP.sub (ws' := [(h0, .inr (7, [.int 0, .ref m1, .int (nI j), .int 0, .int 0, .int 0, .int (-1), .int 0, .int 0, .ref m2, .ref m3, .ref m4, .int 0, .ref m5, .ref m6, .ref m7, .int 0, .ref m8, .ref m9, .ref m10, .int 0, .int 0, .ref m11, .ref m12, .ref m13, .int 0, .int 0, .ref m14, .int 0, .ref m15, .ref m16, .ref m17, .int 0, .int 0, .ref m18, .ref m19, .ref m20, .int 0, .ref m21]))]) [0] rfl
  have hD9 := hD.sub (ws' := [(h0, .inr (7, [.int 0, .ref m1, .int (nI j), .int 0, .int 0, .int 0, .int (-1), .int 0, .int 0, .ref m2, .ref m3, .ref m4, .int 0, .ref m5, .ref m6, .ref m7, .int 0, .ref m8, .ref m9, .ref m10, .int 0, .int 0, .ref m11, .ref m12, .ref m13, .int 0, .int 0, .ref m14, .int 0, .ref m15, .ref m16, .ref m17, .int 0, .int 0, .ref m18, .ref m19, .ref m20, .int 0, .ref m21]))]) [0] (by decide) rfl
  refine W.widen (k := 0) (n := 0) (Nat.le_of_ble_eq_true rfl) (Nat.le_of_ble_eq_true rfl) ?_
  exact W.iret (v := (nI j)) hx hb hr (fun t ht hW => ⟨⟨(nI j), (), rfl, rfl, by rw [ht]; exact hP9, hD9⟩, hS.F ht⟩) hS.2.2 dX7_feed_101
