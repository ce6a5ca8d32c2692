set_option maxHeartbeats 4000000 in
set_option maxRecDepth 100000 in
/-- the law's feed: the class throws -/
theorem c_L_feedL (l : Launch) (dC : Nat → ClassId) (dI : Nat → Nat → Nat) (cI cZ cL : ClassId) (h0 o0 : Nat) (sz : Nat) (n0 r0 j0 p0 a1 : Nat) (b : Int64) (x : Int32) (g : Nat → Int64) (hst : l.stackTraces = false) (hn : x < 1) : Met l yL_feed (wh yL_feed cL_feed 6 (some .int) [(0, 11, 14, 13), (0, 11, 18, 15)]) ({ frames := 7, cells := 1, slots := 6, locals := 106 }) (va_Pc [.ref h0, .long b, .int x, .ref o0] (hpx dC dI cI cZ cL sz [(h0, .inr (6, [.ref a1, .int 0, .int (-1), .ref n0, .ref r0, .ref j0, .ref p0])), (o0, .inl (cL, 1, .inr (.inl g)))])) (va_Qi (fun (r : Int32) (_ : Unit) => r = 1) (fun (_ : Unit) t => va_P (dC, dI) vwCl [(o0, .inl (cL, 1, .inr (.inl g)))] t.heap ∧ va_D (va_A [(h0, .inr (6, [.ref a1, .int 0, .int (-1), .ref n0, .ref r0, .ref j0, .ref p0])), (o0, .inl (cL, 1, .inr (.inl g)))] sz) [(o0, .inl (cL, 1, .inr (.inl g)))]) (va_A [(h0, .inr (6, [.ref a1, .int 0, .int (-1), .ref n0, .ref r0, .ref j0, .ref p0])), (o0, .inl (cL, 1, .inr (.inl g)))] sz)) 1 6 (va_A [(h0, .inr (6, [.ref a1, .int 0, .int (-1), .ref n0, .ref r0, .ref j0, .ref p0])), (o0, .inl (cL, 1, .inr (.inl g)))] sz) := by
  refine va_MetW (cc := cL_feed) (maxL := 6) (ret := (some .int)) (hh := [(0, 11, 14, 13), (0, 11, 18, 15)]) (by decide) rfl ?_
  intro p e s m args below meth c s₁ B hml hv
  obtain ⟨rfl, hsz, hP, hK, hD0, hE0⟩ := hv
  have hx := B.exec
  have hb := B.bytes
  have hr := B.returns
  have hw9 := atoms_spec (ws := (wh yL_feed cL_feed 6 (some .int) [(0, 11, 14, 13), (0, 11, 18, 15)])) B.pre
  have hg := gw_hts hw9
  have hown : s.vm.findClass RL = some m.cls := findClass_of_methodNamed B.named
  have hlocks := B.notSynchronized
  have hct := vx_table (x := yL_feed) B (hw9 _ List.mem_cons_self)
  subst hsz
  have hD := hD0.self (sz := s.heap.size)
  have hE := hE0
  generalize hAe : va_A [(h0, .inr (6, [.ref a1, .int 0, .int (-1), .ref n0, .ref r0, .ref j0, .ref p0])), (o0, .inl (cL, 1, .inr (.inl g)))] s.heap.size = A at hD hE ⊢
  have hA : ∀ q : Nat, s.heap.size ≤ q → A q := fun q h => by rw [← hAe]; exact Or.inr h
  have hS : va_S A s.heap s.heap [] := va_S.rf
  have hl := lv_entry ([.ref h0, .long b, .int x, .ref o0]) (n := 6) (Nat.le_of_ble_eq_true rfl)
  rw [lg_entry_eq]
  generalize (lg_sl ([.ref h0, .long b, .int x, .ref o0]) ++ List.replicate (6 - (lg_sl ([.ref h0, .long b, .int x, .ref o0])).length) Slot.unset).toArray = ls at hl ⊢
  have hl : lv_has ls 6 [(0, .ref h0), (1, .long b), (3, .int x), (4, .ref o0)] := hl
  refine lv_aload hx hb dL_feed_0 (lv_at hl 3 rfl) ?_
  refine lv_iconst (v := 0) hx hb dL_feed_2 (by decide) ?_
  refine lv_aload_n hx hb dL_feed_3 rfl (lv_at hl 0 rfl) ?_
  refine lv_lload_n hx hb dL_feed_4 rfl (lv_at hl 1 rfl) ?_
  refine lv_iload_n hx hb dL_feed_5 rfl (lv_at hl 2 rfl) ?_
  have hPc := hP.sub (ws' := [(h0, .inr (6, [.ref a1, .int 0, .int (-1), .ref n0, .ref r0, .ref j0, .ref p0]))]) [0] rfl
  have hDc := hD.sub (ws' := [(h0, .inr (6, [.ref a1, .int 0, .int (-1), .ref n0, .ref r0, .ref j0, .ref p0]))]) [0] (by decide) rfl
  have hFc := va_free (wc := [(h0, .inr (6, [.ref a1, .int 0, .int (-1), .ref n0, .ref r0, .ref j0, .ref p0]))]) hD hS hA [0] rfl
  refine vx_calli (vx_runV (As := [.long b, .int x]) (rest := [.int 0, .ref o0]) ⟨hx, hb, hml, hown, hg⟩ (c_X6_feedL l dC dI cI cZ cL h0 (Array.size _) n0 r0 j0 p0 a1 b x hst hn) (cwV 2 hg (gw_V k_295 k_296 k_297 k_280 g_yX6_feed) rfl rfl rfl (by decide +kernel) ⟨(Nat.le_of_ble_eq_true rfl), (Nat.le_of_ble_eq_true rfl)⟩) ⟨hpx_bl, va_recv hK hPc (ci := 6) (q0 := 0) rfl rfl, fun U hU hW => hpx_ok hU hW hPc hK hDc hE hS hFc⟩ rfl rfl hl.1 rfl (lv_room (Nat.le_of_ble_eq_true rfl)) dL_feed_6 ⟨(Nat.le_of_ble_eq_true rfl), (Nat.le_of_ble_eq_true rfl)⟩) hS (fun q _ h => hFc q h) hFc (fun q _ h => hFc q h) (fun E9 ce9 q9 u t H locs ht hvm hw hB hz1 hk1 hS hce hcv hcl => ?_) (fun r9 u t H locs ht hvm hw hB hz1 hk1 hS => hw.elim)
  obtain rfl := hB
  obtain ⟨hP, hD⟩ := va_join (wr := [(o0, .inl (cL, 1, .inr (.inl g)))]) (w1 := []) hP hD [0] [1] rfl rfl (by decide) (by decide) hk1 hFc nil_P nil_D
  have hP : va_P (dC, dI) vwCl [(o0, .inl (cL, 1, .inr (.inl g)))] H := hP
  have hD : va_D A [(o0, .inl (cL, 1, .inr (.inl g)))] := hD
  refine vx_widen (k := 1) (n := 6) (Nat.le_of_ble_eq_true rfl) (Nat.le_of_ble_eq_true rfl) ?_
  refine ct_catch (own := RL) (name := "java/lang/IllegalArgumentException") hown _ _ hct (by decide) (by decide) (hg _ k_298) (va_Nw.use rfl hE.1) hce hcv hcl ?_
  refine W.eq (g2 := F0 m 14 ls [.ref q9]) rfl ?_
  refine lv_astore (lv' := [(5, .ref q9), (0, .ref h0), (1, .long b), (3, .int x), (4, .ref o0)]) hx hb dL_feed_14 hl (by decide) rfl (fun ls hl => ?_)
  refine lv_iconst (v := 1) hx hb dL_feed_16 (by decide) ?_
  have hP9 := hP.sub (ws' := [(o0, .inl (cL, 1, .inr (.inl g)))]) [0] rfl
  have hD9 := hD.sub (ws' := [(o0, .inl (cL, 1, .inr (.inl g)))]) [0] (by decide) rfl
  refine W.widen (k := 1) (n := 6) (Nat.le_of_ble_eq_true rfl) (Nat.le_of_ble_eq_true rfl) ?_
  exact W.iret (v := 1) hx hb hr (fun t ht hW => ⟨⟨1, (), rfl, rfl, by rw [ht]; exact hP9, hD9⟩, hS.F ht⟩) hS.2.2 dL_feed_17

set_option maxHeartbeats 4000000 in
set_option maxRecDepth 100000 in
/-- the law's feed: the class throws -/
theorem c_L_feedH (l : Launch) (dC : Nat → ClassId) (dI : Nat → Nat → Nat) (cI cZ cL : ClassId) (h0 o0 : Nat) (sz : Nat) (n0 r0 j0 p0 a1 : Nat) (b : Int64) (x : Int32) (g : Nat → Int64) (hst : l.stackTraces = false) (hn : ¬ x < 1) (hm : ¬ x ≤ 8) : Met l yL_feed (wh yL_feed cL_feed 6 (some .int) [(0, 11, 14, 13), (0, 11, 18, 15)]) ({ frames := 7, cells := 1, slots := 6, locals := 106 }) (va_Pc [.ref h0, .long b, .int x, .ref o0] (hpx dC dI cI cZ cL sz [(h0, .inr (6, [.ref a1, .int 0, .int (-1), .ref n0, .ref r0, .ref j0, .ref p0])), (o0, .inl (cL, 1, .inr (.inl g)))])) (va_Qi (fun (r : Int32) (_ : Unit) => r = 1) (fun (_ : Unit) t => va_P (dC, dI) vwCl [(o0, .inl (cL, 1, .inr (.inl g)))] t.heap ∧ va_D (va_A [(h0, .inr (6, [.ref a1, .int 0, .int (-1), .ref n0, .ref r0, .ref j0, .ref p0])), (o0, .inl (cL, 1, .inr (.inl g)))] sz) [(o0, .inl (cL, 1, .inr (.inl g)))]) (va_A [(h0, .inr (6, [.ref a1, .int 0, .int (-1), .ref n0, .ref r0, .ref j0, .ref p0])), (o0, .inl (cL, 1, .inr (.inl g)))] sz)) 1 6 (va_A [(h0, .inr (6, [.ref a1, .int 0, .int (-1), .ref n0, .ref r0, .ref j0, .ref p0])), (o0, .inl (cL, 1, .inr (.inl g)))] sz) := by
  refine va_MetW (cc := cL_feed) (maxL := 6) (ret := (some .int)) (hh := [(0, 11, 14, 13), (0, 11, 18, 15)]) (by decide) rfl ?_
  intro p e s m args below meth c s₁ B hml hv
  obtain ⟨rfl, hsz, hP, hK, hD0, hE0⟩ := hv
  have hx := B.exec
  have hb := B.bytes
  have hr := B.returns
  have hw9 := atoms_spec (ws := (wh yL_feed cL_feed 6 (some .int) [(0, 11, 14, 13), (0, 11, 18, 15)])) B.pre
  have hg := gw_hts hw9
  have hown : s.vm.findClass RL = some m.cls := findClass_of_methodNamed B.named
  have hlocks := B.notSynchronized
  have hct := vx_table (x := yL_feed) B (hw9 _ List.mem_cons_self)
  subst hsz
  have hD := hD0.self (sz := s.heap.size)
  have hE := hE0
  generalize hAe : va_A [(h0, .inr (6, [.ref a1, .int 0, .int (-1), .ref n0, .ref r0, .ref j0, .ref p0])), (o0, .inl (cL, 1, .inr (.inl g)))] s.heap.size = A at hD hE ⊢
  have hA : ∀ q : Nat, s.heap.size ≤ q → A q := fun q h => by rw [← hAe]; exact Or.inr h
  have hS : va_S A s.heap s.heap [] := va_S.rf
  have hl := lv_entry ([.ref h0, .long b, .int x, .ref o0]) (n := 6) (Nat.le_of_ble_eq_true rfl)
  rw [lg_entry_eq]
  generalize (lg_sl ([.ref h0, .long b, .int x, .ref o0]) ++ List.replicate (6 - (lg_sl ([.ref h0, .long b, .int x, .ref o0])).length) Slot.unset).toArray = ls at hl ⊢
  have hl : lv_has ls 6 [(0, .ref h0), (1, .long b), (3, .int x), (4, .ref o0)] := hl
  refine lv_aload hx hb dL_feed_0 (lv_at hl 3 rfl) ?_
  refine lv_iconst (v := 0) hx hb dL_feed_2 (by decide) ?_
  refine lv_aload_n hx hb dL_feed_3 rfl (lv_at hl 0 rfl) ?_
  refine lv_lload_n hx hb dL_feed_4 rfl (lv_at hl 1 rfl) ?_
  refine lv_iload_n hx hb dL_feed_5 rfl (lv_at hl 2 rfl) ?_
  have hPc := hP.sub (ws' := [(h0, .inr (6, [.ref a1, .int 0, .int (-1), .ref n0, .ref r0, .ref j0, .ref p0]))]) [0] rfl
  have hDc := hD.sub (ws' := [(h0, .inr (6, [.ref a1, .int 0, .int (-1), .ref n0, .ref r0, .ref j0, .ref p0]))]) [0] (by decide) rfl
  have hFc := va_free (wc := [(h0, .inr (6, [.ref a1, .int 0, .int (-1), .ref n0, .ref r0, .ref j0, .ref p0]))]) hD hS hA [0] rfl
  refine vx_calli (vx_runV (As := [.long b, .int x]) (rest := [.int 0, .ref o0]) ⟨hx, hb, hml, hown, hg⟩ (c_X6_feedH l dC dI cI cZ cL h0 (Array.size _) n0 r0 j0 p0 a1 b x hst hn hm) (cwV 2 hg (gw_V k_295 k_296 k_297 k_280 g_yX6_feed) rfl rfl rfl (by decide +kernel) ⟨(Nat.le_of_ble_eq_true rfl), (Nat.le_of_ble_eq_true rfl)⟩) ⟨hpx_bl, va_recv hK hPc (ci := 6) (q0 := 0) rfl rfl, fun U hU hW => hpx_ok hU hW hPc hK hDc hE hS hFc⟩ rfl rfl hl.1 rfl (lv_room (Nat.le_of_ble_eq_true rfl)) dL_feed_6 ⟨(Nat.le_of_ble_eq_true rfl), (Nat.le_of_ble_eq_true rfl)⟩) hS (fun q _ h => hFc q h) hFc (fun q _ h => hFc q h) (fun E9 ce9 q9 u t H locs ht hvm hw hB hz1 hk1 hS hce hcv hcl => ?_) (fun r9 u t H locs ht hvm hw hB hz1 hk1 hS => hw.elim)
  obtain rfl := hB
  obtain ⟨hP, hD⟩ := va_join (wr := [(o0, .inl (cL, 1, .inr (.inl g)))]) (w1 := []) hP hD [0] [1] rfl rfl (by decide) (by decide) hk1 hFc nil_P nil_D
  have hP : va_P (dC, dI) vwCl [(o0, .inl (cL, 1, .inr (.inl g)))] H := hP
  have hD : va_D A [(o0, .inl (cL, 1, .inr (.inl g)))] := hD
  refine vx_widen (k := 1) (n := 6) (Nat.le_of_ble_eq_true rfl) (Nat.le_of_ble_eq_true rfl) ?_
  refine ct_catch (own := RL) (name := "java/lang/IllegalArgumentException") hown _ _ hct (by decide) (by decide) (hg _ k_298) (va_Nw.use rfl hE.1) hce hcv hcl ?_
  refine W.eq (g2 := F0 m 14 ls [.ref q9]) rfl ?_
  refine lv_astore (lv' := [(5, .ref q9), (0, .ref h0), (1, .long b), (3, .int x), (4, .ref o0)]) hx hb dL_feed_14 hl (by decide) rfl (fun ls hl => ?_)
  refine lv_iconst (v := 1) hx hb dL_feed_16 (by decide) ?_
  have hP9 := hP.sub (ws' := [(o0, .inl (cL, 1, .inr (.inl g)))]) [0] rfl
  have hD9 := hD.sub (ws' := [(o0, .inl (cL, 1, .inr (.inl g)))]) [0] (by decide) rfl
  refine W.widen (k := 1) (n := 6) (Nat.le_of_ble_eq_true rfl) (Nat.le_of_ble_eq_true rfl) ?_
  exact W.iret (v := 1) hx hb hr (fun t ht hW => ⟨⟨1, (), rfl, rfl, by rw [ht]; exact hP9, hD9⟩, hS.F ht⟩) hS.2.2 dL_feed_17

set_option maxHeartbeats 4000000 in
set_option maxRecDepth 100000 in
/-- the law's feed: the class answers -/
theorem c_L_feedG (l : Launch) (dC : Nat → ClassId) (dI : Nat → Nat → Nat) (cI cZ cL : ClassId) (h0 a1 o0 : Nat) (sz : Nat) (n0 r0 j0 p0 : Nat) (b : Int64) (j : Nat) (g : Nat → Int64) (hj : j < 9) (h1 : 0 < j) : Met l yL_feed (wh yL_feed cL_feed 6 (some .int) [(0, 11, 14, 13), (0, 11, 18, 15)]) ({ frames := 1, cells := 0, slots := 0, locals := 24 }) (va_Pc [.ref h0, .long b, .int (nI j), .ref o0] (hp dC dI cI cZ cL sz [(h0, .inr (6, [.ref a1, .int 0, .int (-1), .ref n0, .ref r0, .ref j0, .ref p0])), (a1, .inl (cI, 60, .inl zI)), (o0, .inl (cL, 1, .inr (.inl g)))])) (va_Qi (fun (r : Int32) (_ : Unit) => r = 0) (fun (_ : Unit) t => va_P (dC, dI) vwCl [(o0, .inl (cL, 1, .inr (.inl (vp_updL g 0 (Int32.toInt64 (nI j))))))] t.heap ∧ va_D (va_A [(h0, .inr (6, [.ref a1, .int 0, .int (-1), .ref n0, .ref r0, .ref j0, .ref p0])), (a1, .inl (cI, 60, .inl zI)), (o0, .inl (cL, 1, .inr (.inl g)))] sz) [(o0, .inl (cL, 1, .inr (.inl (vp_updL g 0 (Int32.toInt64 (nI j))))))]) (va_A [(h0, .inr (6, [.ref a1, .int 0, .int (-1), .ref n0, .ref r0, .ref j0, .ref p0])), (a1, .inl (cI, 60, .inl zI)), (o0, .inl (cL, 1, .inr (.inl g)))] sz)) 0 0 (va_A [(h0, .inr (6, [.ref a1, .int 0, .int (-1), .ref n0, .ref r0, .ref j0, .ref p0])), (a1, .inl (cI, 60, .inl zI)), (o0, .inl (cL, 1, .inr (.inl g)))] sz) := by
  refine va_MetW (cc := cL_feed) (maxL := 6) (ret := (some .int)) (hh := [(0, 11, 14, 13), (0, 11, 18, 15)]) (by decide) rfl ?_
  intro p e s m args below meth c s₁ B hml hv
  obtain ⟨rfl, hsz, hP, hK, hD0⟩ := hv
  have hx := B.exec
  have hb := B.bytes
  have hr := B.returns
  have hw9 := atoms_spec (ws := (wh yL_feed cL_feed 6 (some .int) [(0, 11, 14, 13), (0, 11, 18, 15)])) B.pre
  have hg := gw_hts hw9
  have hown : s.vm.findClass RL = some m.cls := findClass_of_methodNamed B.named
  have hlocks := B.notSynchronized
  have hct := vx_table (x := yL_feed) B (hw9 _ List.mem_cons_self)
  subst hsz
  have hD := hD0.self (sz := s.heap.size)
  generalize hAe : va_A [(h0, .inr (6, [.ref a1, .int 0, .int (-1), .ref n0, .ref r0, .ref j0, .ref p0])), (a1, .inl (cI, 60, .inl zI)), (o0, .inl (cL, 1, .inr (.inl g)))] s.heap.size = A at hD ⊢
  have hA : ∀ q : Nat, s.heap.size ≤ q → A q := fun q h => by rw [← hAe]; exact Or.inr h
  have hS : va_S A s.heap s.heap [] := va_S.rf
  have hl := lv_entry ([.ref h0, .long b, .int (nI j), .ref o0]) (n := 6) (Nat.le_of_ble_eq_true rfl)
  rw [lg_entry_eq]
  generalize (lg_sl ([.ref h0, .long b, .int (nI j), .ref o0]) ++ List.replicate (6 - (lg_sl ([.ref h0, .long b, .int (nI j), .ref o0])).length) Slot.unset).toArray = ls at hl ⊢
  have hl : lv_has ls 6 [(0, .ref h0), (1, .long b), (3, .int (nI j)), (4, .ref o0)] := hl
  refine lv_aload hx hb dL_feed_0 (lv_at hl 3 rfl) ?_
  refine lv_iconst (v := 0) hx hb dL_feed_2 (by decide) ?_
  refine lv_aload_n hx hb dL_feed_3 rfl (lv_at hl 0 rfl) ?_
  refine lv_lload_n hx hb dL_feed_4 rfl (lv_at hl 1 rfl) ?_
  refine lv_iload_n hx hb dL_feed_5 rfl (lv_at hl 2 rfl) ?_
  have hPc := hP.sub (ws' := [(h0, .inr (6, [.ref a1, .int 0, .int (-1), .ref n0, .ref r0, .ref j0, .ref p0])), (a1, .inl (cI, 60, .inl zI))]) [0, 1] rfl
  have hDc := hD.sub (ws' := [(h0, .inr (6, [.ref a1, .int 0, .int (-1), .ref n0, .ref r0, .ref j0, .ref p0])), (a1, .inl (cI, 60, .inl zI))]) [0, 1] (by decide) rfl
  have hFc := va_free (wc := [(h0, .inr (6, [.ref a1, .int 0, .int (-1), .ref n0, .ref r0, .ref j0, .ref p0])), (a1, .inl (cI, 60, .inl zI))]) hD hS hA [0, 1] rfl
  refine va_calli (va_runV (As := [.long b, .int (nI j)]) (rest := [.int 0, .ref o0]) ⟨hx, hb, hml, hown, hg⟩ (c_X6_feedG l dC dI cI cZ cL h0 a1 (Array.size _) n0 r0 j0 p0 b j hj h1) (cwV 2 hg (gw_V k_295 k_296 k_297 k_280 g_yX6_feed) rfl rfl rfl (by decide +kernel) ⟨(Nat.le_of_ble_eq_true rfl), (Nat.le_of_ble_eq_true rfl)⟩) ⟨hp_bl, va_recv hK hPc (ci := 6) (q0 := 0) rfl rfl, fun U hU hW => hp_ok hU hW hPc hK hDc⟩ rfl rfl hl.1 rfl (lv_room (Nat.le_of_ble_eq_true rfl)) dL_feed_6 ⟨(Nat.le_of_ble_eq_true rfl), (Nat.le_of_ble_eq_true rfl)⟩) hS (fun q _ h => hFc q h) hFc (fun r9 u t H locs ht hvm hw hB hz1 hk1 hS => ?_)
  obtain ⟨hP1, hD1⟩ := hB
  rw [ht] at hP1
  obtain ⟨hP, hD⟩ := va_join (wr := [(o0, .inl (cL, 1, .inr (.inl g)))]) (w1 := []) hP hD [0, 1] [2] rfl rfl (by decide) (by decide) hk1 hFc hP1 hD1
  have hP : va_P (dC, dI) vwCl [(o0, .inl (cL, 1, .inr (.inl g)))] H := hP
  have hD : va_D A [(o0, .inl (cL, 1, .inr (.inl g)))] := hD
  refine W.widen (k := 0) (n := 0) (Nat.le_of_ble_eq_true rfl) (Nat.le_of_ble_eq_true rfl) ?_
  obtain ⟨r1, rfl⟩ : ∃ z, z = r9 := ⟨_, rfl⟩
  have wr1 := hw
  obtain rfl : r1 = nI j := wr1
  refine lv_i2l hx hb dL_feed_9 rfl ?_
  refine lv_topl (fun z2 ez2 => ?_)
  obtain rfl : z2 = Int32.toInt64 (nI j) := ez2
  refine va_last hx hb hK hP hD hS 0 2 rfl rfl (vp_lit (by decide) (by decide)) dL_feed_10 (fun H locs hP hD hS => ?_)
  have hP : va_P (dC, dI) vwCl [(o0, .inl (cL, 1, .inr (.inl (vp_updL g 0 (Int32.toInt64 (nI j))))))] H := hP
  have hD : va_D A [(o0, .inl (cL, 1, .inr (.inl (vp_updL g 0 (Int32.toInt64 (nI j))))))] := hD
  refine lv_goto (tgt := 22) hx hb dL_feed_11 (by decide) ?_
  refine lv_iconst (v := 0) hx hb dL_feed_22 (by decide) ?_
  have hP9 := hP.sub (ws' := [(o0, .inl (cL, 1, .inr (.inl (vp_updL g 0 (Int32.toInt64 (nI j))))))]) [0] rfl
  have hD9 := hD.sub (ws' := [(o0, .inl (cL, 1, .inr (.inl (vp_updL g 0 (Int32.toInt64 (nI j))))))]) [0] (by decide) rfl
  refine W.widen (k := 0) (n := 0) (Nat.le_of_ble_eq_true rfl) (Nat.le_of_ble_eq_true rfl) ?_
  exact W.iret (v := 0) hx hb hr (fun t ht hW => ⟨⟨0, (), rfl, rfl, by rw [ht]; exact hP9, hD9⟩, hS.F ht⟩) hS.2.2 dL_feed_23

set_option maxHeartbeats 4000000 in
set_option maxRecDepth 100000 in
/-- the law's infer: the class throws -/
theorem c_L_infer (l : Launch) (dC : Nat → ClassId) (dI : Nat → Nat → Nat) (cI cZ cL : ClassId) (h0 a1 n0 b1 b2 b3 b4 b5 r0 a2 j0 x0 p0 o0 : Nat) (sz : Nat) (a3 j2 j3 j4 j5 c1 c2 p1 p2 : Nat) (g : Nat → Int64) (hst : l.stackTraces = false) : Met l yL_infer (wh yL_infer cL_infer 3 (some .int) [(0, 15, 18, 13)]) ({ frames := 7, cells := 1, slots := 6, locals := 109 }) (va_Pc [.ref h0, .ref o0] (hpx dC dI cI cZ cL sz [(h0, .inr (6, [.ref a1, .int 0, .int (-1), .ref n0, .ref r0, .ref j0, .ref p0])), (a1, .inl (cI, 60, .inl zI)), (n0, .inr (2, [.ref b1, .ref b2, .ref b3, .ref b4, .ref b5, .int 0])), (b1, .inl (cI, 4096, .inl zI)), (b2, .inl (cI, 4096, .inl zI)), (b3, .inl (cI, 4096, .inl zI)), (b4, .inl (cI, 4096, .inl zI)), (b5, .inl (cZ, 4096, .inl zI)), (r0, .inr (4, [.ref n0, .ref a1, .ref a2, .ref a3, .int 0, .int 0, .int 0, .int 0, .int (-1)])), (a2, .inl (cI, 26, .inl zI)), (j0, .inr (1, [.ref n0, .ref x0, .ref j2, .ref j3, .ref j4, .ref j5, .int 0, .int 0, .int (-1), .int 0, .int 0])), (x0, .inr (0, [.ref n0, .ref c1, .ref c2, .int 0])), (p0, .inr (3, [.ref n0, .ref p1, .ref p2, .int 0, .int (-1), .int 0])), (o0, .inl (cL, 1, .inr (.inl g)))])) (va_Qi (fun (r : Int32) (_ : Unit) => r = 1) (fun (_ : Unit) t => va_P (dC, dI) vwCl [(o0, .inl (cL, 1, .inr (.inl g)))] t.heap ∧ va_D (va_A [(h0, .inr (6, [.ref a1, .int 0, .int (-1), .ref n0, .ref r0, .ref j0, .ref p0])), (a1, .inl (cI, 60, .inl zI)), (n0, .inr (2, [.ref b1, .ref b2, .ref b3, .ref b4, .ref b5, .int 0])), (b1, .inl (cI, 4096, .inl zI)), (b2, .inl (cI, 4096, .inl zI)), (b3, .inl (cI, 4096, .inl zI)), (b4, .inl (cI, 4096, .inl zI)), (b5, .inl (cZ, 4096, .inl zI)), (r0, .inr (4, [.ref n0, .ref a1, .ref a2, .ref a3, .int 0, .int 0, .int 0, .int 0, .int (-1)])), (a2, .inl (cI, 26, .inl zI)), (j0, .inr (1, [.ref n0, .ref x0, .ref j2, .ref j3, .ref j4, .ref j5, .int 0, .int 0, .int (-1), .int 0, .int 0])), (x0, .inr (0, [.ref n0, .ref c1, .ref c2, .int 0])), (p0, .inr (3, [.ref n0, .ref p1, .ref p2, .int 0, .int (-1), .int 0])), (o0, .inl (cL, 1, .inr (.inl g)))] sz) [(o0, .inl (cL, 1, .inr (.inl g)))]) (va_A [(h0, .inr (6, [.ref a1, .int 0, .int (-1), .ref n0, .ref r0, .ref j0, .ref p0])), (a1, .inl (cI, 60, .inl zI)), (n0, .inr (2, [.ref b1, .ref b2, .ref b3, .ref b4, .ref b5, .int 0])), (b1, .inl (cI, 4096, .inl zI)), (b2, .inl (cI, 4096, .inl zI)), (b3, .inl (cI, 4096, .inl zI)), (b4, .inl (cI, 4096, .inl zI)), (b5, .inl (cZ, 4096, .inl zI)), (r0, .inr (4, [.ref n0, .ref a1, .ref a2, .ref a3, .int 0, .int 0, .int 0, .int 0, .int (-1)])), (a2, .inl (cI, 26, .inl zI)), (j0, .inr (1, [.ref n0, .ref x0, .ref j2, .ref j3, .ref j4, .ref j5, .int 0, .int 0, .int (-1), .int 0, .int 0])), (x0, .inr (0, [.ref n0, .ref c1, .ref c2, .int 0])), (p0, .inr (3, [.ref n0, .ref p1, .ref p2, .int 0, .int (-1), .int 0])), (o0, .inl (cL, 1, .inr (.inl g)))] sz)) 1 6 (va_A [(h0, .inr (6, [.ref a1, .int 0, .int (-1), .ref n0, .ref r0, .ref j0, .ref p0])), (a1, .inl (cI, 60, .inl zI)), (n0, .inr (2, [.ref b1, .ref b2, .ref b3, .ref b4, .ref b5, .int 0])), (b1, .inl (cI, 4096, .inl zI)), (b2, .inl (cI, 4096, .inl zI)), (b3, .inl (cI, 4096, .inl zI)), (b4, .inl (cI, 4096, .inl zI)), (b5, .inl (cZ, 4096, .inl zI)), (r0, .inr (4, [.ref n0, .ref a1, .ref a2, .ref a3, .int 0, .int 0, .int 0, .int 0, .int (-1)])), (a2, .inl (cI, 26, .inl zI)), (j0, .inr (1, [.ref n0, .ref x0, .ref j2, .ref j3, .ref j4, .ref j5, .int 0, .int 0, .int (-1), .int 0, .int 0])), (x0, .inr (0, [.ref n0, .ref c1, .ref c2, .int 0])), (p0, .inr (3, [.ref n0, .ref p1, .ref p2, .int 0, .int (-1), .int 0])), (o0, .inl (cL, 1, .inr (.inl g)))] sz) := by
  refine va_MetW (cc := cL_infer) (maxL := 3) (ret := (some .int)) (hh := [(0, 15, 18, 13)]) (by decide) rfl ?_
  intro p e s m args below meth c s₁ B hml hv
  obtain ⟨rfl, hsz, hP, hK, hD0, hE0⟩ := hv
  have hx := B.exec
  have hb := B.bytes
  have hr := B.returns
  have hw9 := atoms_spec (ws := (wh yL_infer cL_infer 3 (some .int) [(0, 15, 18, 13)])) B.pre
  have hg := gw_hts hw9
  have hown : s.vm.findClass RL = some m.cls := findClass_of_methodNamed B.named
  have hlocks := B.notSynchronized
  have hct := vx_table (x := yL_infer) B (hw9 _ List.mem_cons_self)
  subst hsz
  have hD := hD0.self (sz := s.heap.size)
  have hE := hE0
  generalize hAe : va_A [(h0, .inr (6, [.ref a1, .int 0, .int (-1), .ref n0, .ref r0, .ref j0, .ref p0])), (a1, .inl (cI, 60, .inl zI)), (n0, .inr (2, [.ref b1, .ref b2, .ref b3, .ref b4, .ref b5, .int 0])), (b1, .inl (cI, 4096, .inl zI)), (b2, .inl (cI, 4096, .inl zI)), (b3, .inl (cI, 4096, .inl zI)), (b4, .inl (cI, 4096, .inl zI)), (b5, .inl (cZ, 4096, .inl zI)), (r0, .inr (4, [.ref n0, .ref a1, .ref a2, .ref a3, .int 0, .int 0, .int 0, .int 0, .int (-1)])), (a2, .inl (cI, 26, .inl zI)), (j0, .inr (1, [.ref n0, .ref x0, .ref j2, .ref j3, .ref j4, .ref j5, .int 0, .int 0, .int (-1), .int 0, .int 0])), (x0, .inr (0, [.ref n0, .ref c1, .ref c2, .int 0])), (p0, .inr (3, [.ref n0, .ref p1, .ref p2, .int 0, .int (-1), .int 0])), (o0, .inl (cL, 1, .inr (.inl g)))] s.heap.size = A at hD hE ⊢
  have hA : ∀ q : Nat, s.heap.size ≤ q → A q := fun q h => by rw [← hAe]; exact Or.inr h
  have hS : va_S A s.heap s.heap [] := va_S.rf
  have hl := lv_entry ([.ref h0, .ref o0]) (n := 3) (Nat.le_of_ble_eq_true rfl)
  rw [lg_entry_eq]
  generalize (lg_sl ([.ref h0, .ref o0]) ++ List.replicate (3 - (lg_sl ([.ref h0, .ref o0])).length) Slot.unset).toArray = ls at hl ⊢
  have hl : lv_has ls 3 [(0, .ref h0), (1, .ref o0)] := hl
  refine lv_aload_n hx hb dL_infer_0 rfl (lv_at hl 1 rfl) ?_
  refine lv_iconst (v := 0) hx hb dL_infer_1 (by decide) ?_
  refine lv_aload_n hx hb dL_infer_2 rfl (lv_at hl 0 rfl) ?_
  have hPc := hP.sub (ws' := [(h0, .inr (6, [.ref a1, .int 0, .int (-1), .ref n0, .ref r0, .ref j0, .ref p0])), (a1, .inl (cI, 60, .inl zI)), (n0, .inr (2, [.ref b1, .ref b2, .ref b3, .ref b4, .ref b5, .int 0])), (b1, .inl (cI, 4096, .inl zI)), (b2, .inl (cI, 4096, .inl zI)), (b3, .inl (cI, 4096, .inl zI)), (b4, .inl (cI, 4096, .inl zI)), (b5, .inl (cZ, 4096, .inl zI)), (r0, .inr (4, [.ref n0, .ref a1, .ref a2, .ref a3, .int 0, .int 0, .int 0, .int 0, .int (-1)])), (a2, .inl (cI, 26, .inl zI)), (j0, .inr (1, [.ref n0, .ref x0, .ref j2, .ref j3, .ref j4, .ref j5, .int 0, .int 0, .int (-1), .int 0, .int 0])), (x0, .inr (0, [.ref n0, .ref c1, .ref c2, .int 0])), (p0, .inr (3, [.ref n0, .ref p1, .ref p2, .int 0, .int (-1), .int 0]))]) [0, 1, 2, 3, 4, 5, 6, 7, 8, 9, 10, 11, 12] rfl
  have hDc := hD.sub (ws' := [(h0, .inr (6, [.ref a1, .int 0, .int (-1), .ref n0, .ref r0, .ref j0, .ref p0])), (a1, .inl (cI, 60, .inl zI)), (n0, .inr (2, [.ref b1, .ref b2, .ref b3, .ref b4, .ref b5, .int 0])), (b1, .inl (cI, 4096, .inl zI)), (b2, .inl (cI, 4096, .inl zI)), (b3, .inl (cI, 4096, .inl zI)), (b4, .inl (cI, 4096, .inl zI)), (b5, .inl (cZ, 4096, .inl zI)), (r0, .inr (4, [.ref n0, .ref a1, .ref a2, .ref a3, .int 0, .int 0, .int 0, .int 0, .int (-1)])), (a2, .inl (cI, 26, .inl zI)), (j0, .inr (1, [.ref n0, .ref x0, .ref j2, .ref j3, .ref j4, .ref j5, .int 0, .int 0, .int (-1), .int 0, .int 0])), (x0, .inr (0, [.ref n0, .ref c1, .ref c2, .int 0])), (p0, .inr (3, [.ref n0, .ref p1, .ref p2, .int 0, .int (-1), .int 0]))]) [0, 1, 2, 3, 4, 5, 6, 7, 8, 9, 10, 11, 12] (by decide) rfl
  have hFc := va_free (wc := [(h0, .inr (6, [.ref a1, .int 0, .int (-1), .ref n0, .ref r0, .ref j0, .ref p0])), (a1, .inl (cI, 60, .inl zI)), (n0, .inr (2, [.ref b1, .ref b2, .ref b3, .ref b4, .ref b5, .int 0])), (b1, .inl (cI, 4096, .inl zI)), (b2, .inl (cI, 4096, .inl zI)), (b3, .inl (cI, 4096, .inl zI)), (b4, .inl (cI, 4096, .inl zI)), (b5, .inl (cZ, 4096, .inl zI)), (r0, .inr (4, [.ref n0, .ref a1, .ref a2, .ref a3, .int 0, .int 0, .int 0, .int 0, .int (-1)])), (a2, .inl (cI, 26, .inl zI)), (j0, .inr (1, [.ref n0, .ref x0, .ref j2, .ref j3, .ref j4, .ref j5, .int 0, .int 0, .int (-1), .int 0, .int 0])), (x0, .inr (0, [.ref n0, .ref c1, .ref c2, .int 0])), (p0, .inr (3, [.ref n0, .ref p1, .ref p2, .int 0, .int (-1), .int 0]))]) hD hS hA [0, 1, 2, 3, 4, 5, 6, 7, 8, 9, 10, 11, 12] rfl
  refine vx_calli (vx_runV (As := []) (rest := [.int 0, .ref o0]) ⟨hx, hb, hml, hown, hg⟩ (c_X6_infer l dC dI cI cZ cL h0 a1 n0 b1 b2 b3 b4 b5 r0 a2 j0 x0 p0 (Array.size _) a3 j2 j3 j4 j5 c1 c2 p1 p2 hst) (cwV 0 hg (gw_V k_299 k_300 k_301 k_280 g_yX6_infer) rfl rfl rfl (by decide +kernel) ⟨(Nat.le_of_ble_eq_true rfl), (Nat.le_of_ble_eq_true rfl)⟩) ⟨hpx_bl, va_recv hK hPc (ci := 6) (q0 := 0) rfl rfl, fun U hU hW => hpx_ok hU hW hPc hK hDc hE hS hFc⟩ rfl rfl hl.1 rfl (lv_room (Nat.le_of_ble_eq_true rfl)) dL_infer_3 ⟨(Nat.le_of_ble_eq_true rfl), (Nat.le_of_ble_eq_true rfl)⟩) hS (fun q _ h => hFc q h) hFc (fun q _ h => hFc q h) (fun E9 ce9 q9 u t H locs ht hvm hw hB hz1 hk1 hS hce hcv hcl => ?_) (fun r9 u t H locs ht hvm hw hB hz1 hk1 hS => hw.elim)
  obtain rfl := hB
  obtain ⟨hP, hD⟩ := va_join (wr := [(o0, .inl (cL, 1, .inr (.inl g)))]) (w1 := []) hP hD [0, 1, 2, 3, 4, 5, 6, 7, 8, 9, 10, 11, 12] [13] rfl rfl (by decide) (by decide) hk1 hFc nil_P nil_D
  have hP : va_P (dC, dI) vwCl [(o0, .inl (cL, 1, .inr (.inl g)))] H := hP
  have hD : va_D A [(o0, .inl (cL, 1, .inr (.inl g)))] := hD
  refine vx_widen (k := 1) (n := 6) (Nat.le_of_ble_eq_true rfl) (Nat.le_of_ble_eq_true rfl) ?_
  refine ct_catch (own := RL) (name := "java/lang/IllegalArgumentException") hown _ _ hct (by decide) (by decide) (hg _ k_298) (va_Nw.use rfl hE.1) hce hcv hcl ?_
  refine W.eq (g2 := F0 m 18 ls [.ref q9]) rfl ?_
  refine lv_astore_n (lv' := [(2, .ref q9), (0, .ref h0), (1, .ref o0)]) hx hb dL_infer_18 rfl hl (by decide) rfl (fun ls hl => ?_)
  refine lv_iconst (v := 1) hx hb dL_infer_19 (by decide) ?_
  have hP9 := hP.sub (ws' := [(o0, .inl (cL, 1, .inr (.inl g)))]) [0] rfl
  have hD9 := hD.sub (ws' := [(o0, .inl (cL, 1, .inr (.inl g)))]) [0] (by decide) rfl
  refine W.widen (k := 1) (n := 6) (Nat.le_of_ble_eq_true rfl) (Nat.le_of_ble_eq_true rfl) ?_
  exact W.iret (v := 1) hx hb hr (fun t ht hW => ⟨⟨1, (), rfl, rfl, by rw [ht]; exact hP9, hD9⟩, hS.F ht⟩) hS.2.2 dL_infer_20

set_option maxHeartbeats 4000000 in
set_option maxRecDepth 100000 in
/-- the law's below: the class throws -/
theorem c_L_below (l : Launch) (dC : Nat → ClassId) (dI : Nat → Nat → Nat) (cI cZ cL : ClassId) (h0 a1 n0 b1 b2 b3 b4 b5 r0 a2 j0 x0 p0 o0 : Nat) (sz : Nat) (a3 j2 j3 j4 j5 c1 c2 p1 p2 : Nat) (g : Nat → Int64) (hst : l.stackTraces = false) : Met l yL_below (wh yL_below cL_below 3 (some .int) [(0, 15, 18, 13)]) ({ frames := 7, cells := 1, slots := 6, locals := 108 }) (va_Pc [.ref h0, .ref o0] (hpx dC dI cI cZ cL sz [(h0, .inr (6, [.ref a1, .int 0, .int (-1), .ref n0, .ref r0, .ref j0, .ref p0])), (a1, .inl (cI, 60, .inl zI)), (n0, .inr (2, [.ref b1, .ref b2, .ref b3, .ref b4, .ref b5, .int 0])), (b1, .inl (cI, 4096, .inl zI)), (b2, .inl (cI, 4096, .inl zI)), (b3, .inl (cI, 4096, .inl zI)), (b4, .inl (cI, 4096, .inl zI)), (b5, .inl (cZ, 4096, .inl zI)), (r0, .inr (4, [.ref n0, .ref a1, .ref a2, .ref a3, .int 0, .int 0, .int 0, .int 0, .int (-1)])), (a2, .inl (cI, 26, .inl zI)), (j0, .inr (1, [.ref n0, .ref x0, .ref j2, .ref j3, .ref j4, .ref j5, .int 0, .int 0, .int (-1), .int 0, .int 0])), (x0, .inr (0, [.ref n0, .ref c1, .ref c2, .int 0])), (p0, .inr (3, [.ref n0, .ref p1, .ref p2, .int 0, .int (-1), .int 0])), (o0, .inl (cL, 1, .inr (.inl g)))])) (va_Qi (fun (r : Int32) (_ : Unit) => r = 1) (fun (_ : Unit) t => va_P (dC, dI) vwCl [(o0, .inl (cL, 1, .inr (.inl g)))] t.heap ∧ va_D (va_A [(h0, .inr (6, [.ref a1, .int 0, .int (-1), .ref n0, .ref r0, .ref j0, .ref p0])), (a1, .inl (cI, 60, .inl zI)), (n0, .inr (2, [.ref b1, .ref b2, .ref b3, .ref b4, .ref b5, .int 0])), (b1, .inl (cI, 4096, .inl zI)), (b2, .inl (cI, 4096, .inl zI)), (b3, .inl (cI, 4096, .inl zI)), (b4, .inl (cI, 4096, .inl zI)), (b5, .inl (cZ, 4096, .inl zI)), (r0, .inr (4, [.ref n0, .ref a1, .ref a2, .ref a3, .int 0, .int 0, .int 0, .int 0, .int (-1)])), (a2, .inl (cI, 26, .inl zI)), (j0, .inr (1, [.ref n0, .ref x0, .ref j2, .ref j3, .ref j4, .ref j5, .int 0, .int 0, .int (-1), .int 0, .int 0])), (x0, .inr (0, [.ref n0, .ref c1, .ref c2, .int 0])), (p0, .inr (3, [.ref n0, .ref p1, .ref p2, .int 0, .int (-1), .int 0])), (o0, .inl (cL, 1, .inr (.inl g)))] sz) [(o0, .inl (cL, 1, .inr (.inl g)))]) (va_A [(h0, .inr (6, [.ref a1, .int 0, .int (-1), .ref n0, .ref r0, .ref j0, .ref p0])), (a1, .inl (cI, 60, .inl zI)), (n0, .inr (2, [.ref b1, .ref b2, .ref b3, .ref b4, .ref b5, .int 0])), (b1, .inl (cI, 4096, .inl zI)), (b2, .inl (cI, 4096, .inl zI)), (b3, .inl (cI, 4096, .inl zI)), (b4, .inl (cI, 4096, .inl zI)), (b5, .inl (cZ, 4096, .inl zI)), (r0, .inr (4, [.ref n0, .ref a1, .ref a2, .ref a3, .int 0, .int 0, .int 0, .int 0, .int (-1)])), (a2, .inl (cI, 26, .inl zI)), (j0, .inr (1, [.ref n0, .ref x0, .ref j2, .ref j3, .ref j4, .ref j5, .int 0, .int 0, .int (-1), .int 0, .int 0])), (x0, .inr (0, [.ref n0, .ref c1, .ref c2, .int 0])), (p0, .inr (3, [.ref n0, .ref p1, .ref p2, .int 0, .int (-1), .int 0])), (o0, .inl (cL, 1, .inr (.inl g)))] sz)) 1 6 (va_A [(h0, .inr (6, [.ref a1, .int 0, .int (-1), .ref n0, .ref r0, .ref j0, .ref p0])), (a1, .inl (cI, 60, .inl zI)), (n0, .inr (2, [.ref b1, .ref b2, .ref b3, .ref b4, .ref b5, .int 0])), (b1, .inl (cI, 4096, .inl zI)), (b2, .inl (cI, 4096, .inl zI)), (b3, .inl (cI, 4096, .inl zI)), (b4, .inl (cI, 4096, .inl zI)), (b5, .inl (cZ, 4096, .inl zI)), (r0, .inr (4, [.ref n0, .ref a1, .ref a2, .ref a3, .int 0, .int 0, .int 0, .int 0, .int (-1)])), (a2, .inl (cI, 26, .inl zI)), (j0, .inr (1, [.ref n0, .ref x0, .ref j2, .ref j3, .ref j4, .ref j5, .int 0, .int 0, .int (-1), .int 0, .int 0])), (x0, .inr (0, [.ref n0, .ref c1, .ref c2, .int 0])), (p0, .inr (3, [.ref n0, .ref p1, .ref p2, .int 0, .int (-1), .int 0])), (o0, .inl (cL, 1, .inr (.inl g)))] sz) := by
  refine va_MetW (cc := cL_below) (maxL := 3) (ret := (some .int)) (hh := [(0, 15, 18, 13)]) (by decide) rfl ?_
  intro p e s m args below meth c s₁ B hml hv
  obtain ⟨rfl, hsz, hP, hK, hD0, hE0⟩ := hv
  have hx := B.exec
  have hb := B.bytes
  have hr := B.returns
  have hw9 := atoms_spec (ws := (wh yL_below cL_below 3 (some .int) [(0, 15, 18, 13)])) B.pre
  have hg := gw_hts hw9
  have hown : s.vm.findClass RL = some m.cls := findClass_of_methodNamed B.named
  have hlocks := B.notSynchronized
  have hct := vx_table (x := yL_below) B (hw9 _ List.mem_cons_self)
  subst hsz
  have hD := hD0.self (sz := s.heap.size)
  have hE := hE0
  generalize hAe : va_A [(h0, .inr (6, [.ref a1, .int 0, .int (-1), .ref n0, .ref r0, .ref j0, .ref p0])), (a1, .inl (cI, 60, .inl zI)), (n0, .inr (2, [.ref b1, .ref b2, .ref b3, .ref b4, .ref b5, .int 0])), (b1, .inl (cI, 4096, .inl zI)), (b2, .inl (cI, 4096, .inl zI)), (b3, .inl (cI, 4096, .inl zI)), (b4, .inl (cI, 4096, .inl zI)), (b5, .inl (cZ, 4096, .inl zI)), (r0, .inr (4, [.ref n0, .ref a1, .ref a2, .ref a3, .int 0, .int 0, .int 0, .int 0, .int (-1)])), (a2, .inl (cI, 26, .inl zI)), (j0, .inr (1, [.ref n0, .ref x0, .ref j2, .ref j3, .ref j4, .ref j5, .int 0, .int 0, .int (-1), .int 0, .int 0])), (x0, .inr (0, [.ref n0, .ref c1, .ref c2, .int 0])), (p0, .inr (3, [.ref n0, .ref p1, .ref p2, .int 0, .int (-1), .int 0])), (o0, .inl (cL, 1, .inr (.inl g)))] s.heap.size = A at hD hE ⊢
  have hA : ∀ q : Nat, s.heap.size ≤ q → A q := fun q h => by rw [← hAe]; exact Or.inr h
  have hS : va_S A s.heap s.heap [] := va_S.rf
  have hl := lv_entry ([.ref h0, .ref o0]) (n := 3) (Nat.le_of_ble_eq_true rfl)
  rw [lg_entry_eq]
  generalize (lg_sl ([.ref h0, .ref o0]) ++ List.replicate (3 - (lg_sl ([.ref h0, .ref o0])).length) Slot.unset).toArray = ls at hl ⊢
  have hl : lv_has ls 3 [(0, .ref h0), (1, .ref o0)] := hl
  refine lv_aload_n hx hb dL_below_0 rfl (lv_at hl 1 rfl) ?_
  refine lv_iconst (v := 0) hx hb dL_below_1 (by decide) ?_
  refine lv_aload_n hx hb dL_below_2 rfl (lv_at hl 0 rfl) ?_
  have hPc := hP.sub (ws' := [(h0, .inr (6, [.ref a1, .int 0, .int (-1), .ref n0, .ref r0, .ref j0, .ref p0])), (a1, .inl (cI, 60, .inl zI)), (n0, .inr (2, [.ref b1, .ref b2, .ref b3, .ref b4, .ref b5, .int 0])), (b1, .inl (cI, 4096, .inl zI)), (b2, .inl (cI, 4096, .inl zI)), (b3, .inl (cI, 4096, .inl zI)), (b4, .inl (cI, 4096, .inl zI)), (b5, .inl (cZ, 4096, .inl zI)), (r0, .inr (4, [.ref n0, .ref a1, .ref a2, .ref a3, .int 0, .int 0, .int 0, .int 0, .int (-1)])), (a2, .inl (cI, 26, .inl zI)), (j0, .inr (1, [.ref n0, .ref x0, .ref j2, .ref j3, .ref j4, .ref j5, .int 0, .int 0, .int (-1), .int 0, .int 0])), (x0, .inr (0, [.ref n0, .ref c1, .ref c2, .int 0])), (p0, .inr (3, [.ref n0, .ref p1, .ref p2, .int 0, .int (-1), .int 0]))]) [0, 1, 2, 3, 4, 5, 6, 7, 8, 9, 10, 11, 12] rfl
  have hDc := hD.sub (ws' := [(h0, .inr (6, [.ref a1, .int 0, .int (-1), .ref n0, .ref r0, .ref j0, .ref p0])), (a1, .inl (cI, 60, .inl zI)), (n0, .inr (2, [.ref b1, .ref b2, .ref b3, .ref b4, .ref b5, .int 0])), (b1, .inl (cI, 4096, .inl zI)), (b2, .inl (cI, 4096, .inl zI)), (b3, .inl (cI, 4096, .inl zI)), (b4, .inl (cI, 4096, .inl zI)), (b5, .inl (cZ, 4096, .inl zI)), (r0, .inr (4, [.ref n0, .ref a1, .ref a2, .ref a3, .int 0, .int 0, .int 0, .int 0, .int (-1)])), (a2, .inl (cI, 26, .inl zI)), (j0, .inr (1, [.ref n0, .ref x0, .ref j2, .ref j3, .ref j4, .ref j5, .int 0, .int 0, .int (-1), .int 0, .int 0])), (x0, .inr (0, [.ref n0, .ref c1, .ref c2, .int 0])), (p0, .inr (3, [.ref n0, .ref p1, .ref p2, .int 0, .int (-1), .int 0]))]) [0, 1, 2, 3, 4, 5, 6, 7, 8, 9, 10, 11, 12] (by decide) rfl
  have hFc := va_free (wc := [(h0, .inr (6, [.ref a1, .int 0, .int (-1), .ref n0, .ref r0, .ref j0, .ref p0])), (a1, .inl (cI, 60, .inl zI)), (n0, .inr (2, [.ref b1, .ref b2, .ref b3, .ref b4, .ref b5, .int 0])), (b1, .inl (cI, 4096, .inl zI)), (b2, .inl (cI, 4096, .inl zI)), (b3, .inl (cI, 4096, .inl zI)), (b4, .inl (cI, 4096, .inl zI)), (b5, .inl (cZ, 4096, .inl zI)), (r0, .inr (4, [.ref n0, .ref a1, .ref a2, .ref a3, .int 0, .int 0, .int 0, .int 0, .int (-1)])), (a2, .inl (cI, 26, .inl zI)), (j0, .inr (1, [.ref n0, .ref x0, .ref j2, .ref j3, .ref j4, .ref j5, .int 0, .int 0, .int (-1), .int 0, .int 0])), (x0, .inr (0, [.ref n0, .ref c1, .ref c2, .int 0])), (p0, .inr (3, [.ref n0, .ref p1, .ref p2, .int 0, .int (-1), .int 0]))]) hD hS hA [0, 1, 2, 3, 4, 5, 6, 7, 8, 9, 10, 11, 12] rfl
  refine vx_calli (vx_runV (As := []) (rest := [.int 0, .ref o0]) ⟨hx, hb, hml, hown, hg⟩ (c_X6_below l dC dI cI cZ cL h0 a1 n0 b1 b2 b3 b4 b5 r0 a2 j0 x0 p0 (Array.size _) a3 j2 j3 j4 j5 c1 c2 p1 p2 hst) (cwV 0 hg (gw_V k_302 k_303 k_304 k_280 g_yX6_below) rfl rfl rfl (by decide +kernel) ⟨(Nat.le_of_ble_eq_true rfl), (Nat.le_of_ble_eq_true rfl)⟩) ⟨hpx_bl, va_recv hK hPc (ci := 6) (q0 := 0) rfl rfl, fun U hU hW => hpx_ok hU hW hPc hK hDc hE hS hFc⟩ rfl rfl hl.1 rfl (lv_room (Nat.le_of_ble_eq_true rfl)) dL_below_3 ⟨(Nat.le_of_ble_eq_true rfl), (Nat.le_of_ble_eq_true rfl)⟩) hS (fun q _ h => hFc q h) hFc (fun q _ h => hFc q h) (fun E9 ce9 q9 u t H locs ht hvm hw hB hz1 hk1 hS hce hcv hcl => ?_) (fun r9 u t H locs ht hvm hw hB hz1 hk1 hS => hw.elim)
  obtain rfl := hB
  obtain ⟨hP, hD⟩ := va_join (wr := [(o0, .inl (cL, 1, .inr (.inl g)))]) (w1 := []) hP hD [0, 1, 2, 3, 4, 5, 6, 7, 8, 9, 10, 11, 12] [13] rfl rfl (by decide) (by decide) hk1 hFc nil_P nil_D
  have hP : va_P (dC, dI) vwCl [(o0, .inl (cL, 1, .inr (.inl g)))] H := hP
  have hD : va_D A [(o0, .inl (cL, 1, .inr (.inl g)))] := hD
  refine vx_widen (k := 1) (n := 6) (Nat.le_of_ble_eq_true rfl) (Nat.le_of_ble_eq_true rfl) ?_
  refine ct_catch (own := RL) (name := "java/lang/IllegalArgumentException") hown _ _ hct (by decide) (by decide) (hg _ k_298) (va_Nw.use rfl hE.1) hce hcv hcl ?_
  refine W.eq (g2 := F0 m 18 ls [.ref q9]) rfl ?_
  refine lv_astore_n (lv' := [(2, .ref q9), (0, .ref h0), (1, .ref o0)]) hx hb dL_below_18 rfl hl (by decide) rfl (fun ls hl => ?_)
  refine lv_iconst (v := 1) hx hb dL_below_19 (by decide) ?_
  have hP9 := hP.sub (ws' := [(o0, .inl (cL, 1, .inr (.inl g)))]) [0] rfl
  have hD9 := hD.sub (ws' := [(o0, .inl (cL, 1, .inr (.inl g)))]) [0] (by decide) rfl
  refine W.widen (k := 1) (n := 6) (Nat.le_of_ble_eq_true rfl) (Nat.le_of_ble_eq_true rfl) ?_
  exact W.iret (v := 1) hx hb hr (fun t ht hW => ⟨⟨1, (), rfl, rfl, by rw [ht]; exact hP9, hD9⟩, hS.F ht⟩) hS.2.2 dL_below_20

set_option maxHeartbeats 4000000 in
set_option maxRecDepth 100000 in
/-- the law's out: the class throws -/
theorem c_L_outN (l : Launch) (dC : Nat → ClassId) (dI : Nat → Nat → Nat) (cI cZ cL : ClassId) (h0 p0 n0 o0 : Nat) (sz : Nat) (r0 j0 a1 p1 p2 b1 b2 b3 b4 b5 : Nat) (x : Int32) (g : Nat → Int64) (hst : l.stackTraces = false) (hn : x < 0) : Met l yL_out (wh yL_out cL_out 4 (some .int) [(0, 9, 12, 28)]) ({ frames := 7, cells := 1, slots := 6, locals := 103 }) (va_Pc [.ref h0, .int x, .ref o0] (hpx dC dI cI cZ cL sz [(h0, .inr (6, [.ref a1, .int 0, .int (-1), .ref n0, .ref r0, .ref j0, .ref p0])), (p0, .inr (3, [.ref n0, .ref p1, .ref p2, .int 0, .int (-1), .int 0])), (n0, .inr (2, [.ref b1, .ref b2, .ref b3, .ref b4, .ref b5, .int 0])), (o0, .inl (cL, 1, .inr (.inl g)))])) (va_Qi (fun (r : Int32) (_ : Unit) => r = 1) (fun (_ : Unit) t => va_P (dC, dI) vwCl [(o0, .inl (cL, 1, .inr (.inl g)))] t.heap ∧ va_D (va_A [(h0, .inr (6, [.ref a1, .int 0, .int (-1), .ref n0, .ref r0, .ref j0, .ref p0])), (p0, .inr (3, [.ref n0, .ref p1, .ref p2, .int 0, .int (-1), .int 0])), (n0, .inr (2, [.ref b1, .ref b2, .ref b3, .ref b4, .ref b5, .int 0])), (o0, .inl (cL, 1, .inr (.inl g)))] sz) [(o0, .inl (cL, 1, .inr (.inl g)))]) (va_A [(h0, .inr (6, [.ref a1, .int 0, .int (-1), .ref n0, .ref r0, .ref j0, .ref p0])), (p0, .inr (3, [.ref n0, .ref p1, .ref p2, .int 0, .int (-1), .int 0])), (n0, .inr (2, [.ref b1, .ref b2, .ref b3, .ref b4, .ref b5, .int 0])), (o0, .inl (cL, 1, .inr (.inl g)))] sz)) 1 6 (va_A [(h0, .inr (6, [.ref a1, .int 0, .int (-1), .ref n0, .ref r0, .ref j0, .ref p0])), (p0, .inr (3, [.ref n0, .ref p1, .ref p2, .int 0, .int (-1), .int 0])), (n0, .inr (2, [.ref b1, .ref b2, .ref b3, .ref b4, .ref b5, .int 0])), (o0, .inl (cL, 1, .inr (.inl g)))] sz) := by
  refine va_MetW (cc := cL_out) (maxL := 4) (ret := (some .int)) (hh := [(0, 9, 12, 28)]) (by decide) rfl ?_
  intro p e s m args below meth c s₁ B hml hv
  obtain ⟨rfl, hsz, hP, hK, hD0, hE0⟩ := hv
  have hx := B.exec
  have hb := B.bytes
  have hr := B.returns
  have hw9 := atoms_spec (ws := (wh yL_out cL_out 4 (some .int) [(0, 9, 12, 28)])) B.pre
  have hg := gw_hts hw9
  have hown : s.vm.findClass RL = some m.cls := findClass_of_methodNamed B.named
  have hlocks := B.notSynchronized
  have hct := vx_table (x := yL_out) B (hw9 _ List.mem_cons_self)
  subst hsz
  have hD := hD0.self (sz := s.heap.size)
  have hE := hE0
  generalize hAe : va_A [(h0, .inr (6, [.ref a1, .int 0, .int (-1), .ref n0, .ref r0, .ref j0, .ref p0])), (p0, .inr (3, [.ref n0, .ref p1, .ref p2, .int 0, .int (-1), .int 0])), (n0, .inr (2, [.ref b1, .ref b2, .ref b3, .ref b4, .ref b5, .int 0])), (o0, .inl (cL, 1, .inr (.inl g)))] s.heap.size = A at hD hE ⊢
  have hA : ∀ q : Nat, s.heap.size ≤ q → A q := fun q h => by rw [← hAe]; exact Or.inr h
  have hS : va_S A s.heap s.heap [] := va_S.rf
  have hl := lv_entry ([.ref h0, .int x, .ref o0]) (n := 4) (Nat.le_of_ble_eq_true rfl)
  rw [lg_entry_eq]
  generalize (lg_sl ([.ref h0, .int x, .ref o0]) ++ List.replicate (4 - (lg_sl ([.ref h0, .int x, .ref o0])).length) Slot.unset).toArray = ls at hl ⊢
  have hl : lv_has ls 4 [(0, .ref h0), (1, .int x), (2, .ref o0)] := hl
  refine lv_aload_n hx hb dL_out_0 rfl (lv_at hl 2 rfl) ?_
  refine lv_iconst (v := 0) hx hb dL_out_1 (by decide) ?_
  refine lv_aload_n hx hb dL_out_2 rfl (lv_at hl 0 rfl) ?_
  refine lv_iload_n hx hb dL_out_3 rfl (lv_at hl 1 rfl) ?_
  have hPc := hP.sub (ws' := [(h0, .inr (6, [.ref a1, .int 0, .int (-1), .ref n0, .ref r0, .ref j0, .ref p0])), (p0, .inr (3, [.ref n0, .ref p1, .ref p2, .int 0, .int (-1), .int 0])), (n0, .inr (2, [.ref b1, .ref b2, .ref b3, .ref b4, .ref b5, .int 0]))]) [0, 1, 2] rfl
  have hDc := hD.sub (ws' := [(h0, .inr (6, [.ref a1, .int 0, .int (-1), .ref n0, .ref r0, .ref j0, .ref p0])), (p0, .inr (3, [.ref n0, .ref p1, .ref p2, .int 0, .int (-1), .int 0])), (n0, .inr (2, [.ref b1, .ref b2, .ref b3, .ref b4, .ref b5, .int 0]))]) [0, 1, 2] (by decide) rfl
  have hFc := va_free (wc := [(h0, .inr (6, [.ref a1, .int 0, .int (-1), .ref n0, .ref r0, .ref j0, .ref p0])), (p0, .inr (3, [.ref n0, .ref p1, .ref p2, .int 0, .int (-1), .int 0])), (n0, .inr (2, [.ref b1, .ref b2, .ref b3, .ref b4, .ref b5, .int 0]))]) hD hS hA [0, 1, 2] rfl
  refine vx_calli (vx_runV (As := [.int x]) (rest := [.int 0, .ref o0]) ⟨hx, hb, hml, hown, hg⟩ (c_X6_outN l dC dI cI cZ cL h0 p0 n0 (Array.size _) r0 j0 a1 p1 p2 b1 b2 b3 b4 b5 x hst hn) (cwV 1 hg (gw_V k_305 k_306 k_307 k_280 g_yX6_out) rfl rfl rfl (by decide +kernel) ⟨(Nat.le_of_ble_eq_true rfl), (Nat.le_of_ble_eq_true rfl)⟩) ⟨hpx_bl, va_recv hK hPc (ci := 6) (q0 := 0) rfl rfl, fun U hU hW => hpx_ok hU hW hPc hK hDc hE hS hFc⟩ rfl rfl hl.1 rfl (lv_room (Nat.le_of_ble_eq_true rfl)) dL_out_4 ⟨(Nat.le_of_ble_eq_true rfl), (Nat.le_of_ble_eq_true rfl)⟩) hS (fun q _ h => hFc q h) hFc (fun q _ h => hFc q h) (fun E9 ce9 q9 u t H locs ht hvm hw hB hz1 hk1 hS hce hcv hcl => ?_) (fun r9 u t H locs ht hvm hw hB hz1 hk1 hS => hw.elim)
  obtain rfl := hB
  obtain ⟨hP, hD⟩ := va_join (wr := [(o0, .inl (cL, 1, .inr (.inl g)))]) (w1 := []) hP hD [0, 1, 2] [3] rfl rfl (by decide) (by decide) hk1 hFc nil_P nil_D
  have hP : va_P (dC, dI) vwCl [(o0, .inl (cL, 1, .inr (.inl g)))] H := hP
  have hD : va_D A [(o0, .inl (cL, 1, .inr (.inl g)))] := hD
  refine vx_widen (k := 1) (n := 6) (Nat.le_of_ble_eq_true rfl) (Nat.le_of_ble_eq_true rfl) ?_
  refine ct_catch (own := RL) (name := "java/lang/IndexOutOfBoundsException") hown _ _ hct (by decide) (by decide) (hg _ k_308) (va_Nw.use rfl hE.2.1) hce hcv hcl ?_
  refine W.eq (g2 := F0 m 12 ls [.ref q9]) rfl ?_
  refine lv_astore_n (lv' := [(3, .ref q9), (0, .ref h0), (1, .int x), (2, .ref o0)]) hx hb dL_out_12 rfl hl (by decide) rfl (fun ls hl => ?_)
  refine lv_iconst (v := 1) hx hb dL_out_13 (by decide) ?_
  have hP9 := hP.sub (ws' := [(o0, .inl (cL, 1, .inr (.inl g)))]) [0] rfl
  have hD9 := hD.sub (ws' := [(o0, .inl (cL, 1, .inr (.inl g)))]) [0] (by decide) rfl
  refine W.widen (k := 1) (n := 6) (Nat.le_of_ble_eq_true rfl) (Nat.le_of_ble_eq_true rfl) ?_
  exact W.iret (v := 1) hx hb hr (fun t ht hW => ⟨⟨1, (), rfl, rfl, by rw [ht]; exact hP9, hD9⟩, hS.F ht⟩) hS.2.2 dL_out_14

set_option maxHeartbeats 4000000 in
set_option maxRecDepth 100000 in
/-- the law's out: the class throws -/
theorem c_L_outP (l : Launch) (dC : Nat → ClassId) (dI : Nat → Nat → Nat) (cI cZ cL : ClassId) (h0 p0 n0 o0 : Nat) (sz : Nat) (r0 j0 a1 p1 p2 b1 b2 b3 b4 b5 : Nat) (x : Int32) (g : Nat → Int64) (hst : l.stackTraces = false) (hn : ¬ x < 0) : Met l yL_out (wh yL_out cL_out 4 (some .int) [(0, 9, 12, 28)]) ({ frames := 7, cells := 1, slots := 6, locals := 103 }) (va_Pc [.ref h0, .int x, .ref o0] (hpx dC dI cI cZ cL sz [(h0, .inr (6, [.ref a1, .int 0, .int (-1), .ref n0, .ref r0, .ref j0, .ref p0])), (p0, .inr (3, [.ref n0, .ref p1, .ref p2, .int 0, .int (-1), .int 0])), (n0, .inr (2, [.ref b1, .ref b2, .ref b3, .ref b4, .ref b5, .int 0])), (o0, .inl (cL, 1, .inr (.inl g)))])) (va_Qi (fun (r : Int32) (_ : Unit) => r = 1) (fun (_ : Unit) t => va_P (dC, dI) vwCl [(o0, .inl (cL, 1, .inr (.inl g)))] t.heap ∧ va_D (va_A [(h0, .inr (6, [.ref a1, .int 0, .int (-1), .ref n0, .ref r0, .ref j0, .ref p0])), (p0, .inr (3, [.ref n0, .ref p1, .ref p2, .int 0, .int (-1), .int 0])), (n0, .inr (2, [.ref b1, .ref b2, .ref b3, .ref b4, .ref b5, .int 0])), (o0, .inl (cL, 1, .inr (.inl g)))] sz) [(o0, .inl (cL, 1, .inr (.inl g)))]) (va_A [(h0, .inr (6, [.ref a1, .int 0, .int (-1), .ref n0, .ref r0, .ref j0, .ref p0])), (p0, .inr (3, [.ref n0, .ref p1, .ref p2, .int 0, .int (-1), .int 0])), (n0, .inr (2, [.ref b1, .ref b2, .ref b3, .ref b4, .ref b5, .int 0])), (o0, .inl (cL, 1, .inr (.inl g)))] sz)) 1 6 (va_A [(h0, .inr (6, [.ref a1, .int 0, .int (-1), .ref n0, .ref r0, .ref j0, .ref p0])), (p0, .inr (3, [.ref n0, .ref p1, .ref p2, .int 0, .int (-1), .int 0])), (n0, .inr (2, [.ref b1, .ref b2, .ref b3, .ref b4, .ref b5, .int 0])), (o0, .inl (cL, 1, .inr (.inl g)))] sz) := by
  refine va_MetW (cc := cL_out) (maxL := 4) (ret := (some .int)) (hh := [(0, 9, 12, 28)]) (by decide) rfl ?_
  intro p e s m args below meth c s₁ B hml hv
  obtain ⟨rfl, hsz, hP, hK, hD0, hE0⟩ := hv
  have hx := B.exec
  have hb := B.bytes
  have hr := B.returns
  have hw9 := atoms_spec (ws := (wh yL_out cL_out 4 (some .int) [(0, 9, 12, 28)])) B.pre
  have hg := gw_hts hw9
  have hown : s.vm.findClass RL = some m.cls := findClass_of_methodNamed B.named
  have hlocks := B.notSynchronized
  have hct := vx_table (x := yL_out) B (hw9 _ List.mem_cons_self)
  subst hsz
  have hD := hD0.self (sz := s.heap.size)
  have hE := hE0
  generalize hAe : va_A [(h0, .inr (6, [.ref a1, .int 0, .int (-1), .ref n0, .ref r0, .ref j0, .ref p0])), (p0, .inr (3, [.ref n0, .ref p1, .ref p2, .int 0, .int (-1), .int 0])), (n0, .inr (2, [.ref b1, .ref b2, .ref b3, .ref b4, .ref b5, .int 0])), (o0, .inl (cL, 1, .inr (.inl g)))] s.heap.size = A at hD hE ⊢
  have hA : ∀ q : Nat, s.heap.size ≤ q → A q := fun q h => by rw [← hAe]; exact Or.inr h
  have hS : va_S A s.heap s.heap [] := va_S.rf
  have hl := lv_entry ([.ref h0, .int x, .ref o0]) (n := 4) (Nat.le_of_ble_eq_true rfl)
  rw [lg_entry_eq]
  generalize (lg_sl ([.ref h0, .int x, .ref o0]) ++ List.replicate (4 - (lg_sl ([.ref h0, .int x, .ref o0])).length) Slot.unset).toArray = ls at hl ⊢
  have hl : lv_has ls 4 [(0, .ref h0), (1, .int x), (2, .ref o0)] := hl
  refine lv_aload_n hx hb dL_out_0 rfl (lv_at hl 2 rfl) ?_
  refine lv_iconst (v := 0) hx hb dL_out_1 (by decide) ?_
  refine lv_aload_n hx hb dL_out_2 rfl (lv_at hl 0 rfl) ?_
  refine lv_iload_n hx hb dL_out_3 rfl (lv_at hl 1 rfl) ?_
  have hPc := hP.sub (ws' := [(h0, .inr (6, [.ref a1, .int 0, .int (-1), .ref n0, .ref r0, .ref j0, .ref p0])), (p0, .inr (3, [.ref n0, .ref p1, .ref p2, .int 0, .int (-1), .int 0])), (n0, .inr (2, [.ref b1, .ref b2, .ref b3, .ref b4, .ref b5, .int 0]))]) [0, 1, 2] rfl
  have hDc := hD.sub (ws' := [(h0, .inr (6, [.ref a1, .int 0, .int (-1), .ref n0, .ref r0, .ref j0, .ref p0])), (p0, .inr (3, [.ref n0, .ref p1, .ref p2, .int 0, .int (-1), .int 0])), (n0, .inr (2, [.ref b1, .ref b2, .ref b3, .ref b4, .ref b5, .int 0]))]) [0, 1, 2] (by decide) rfl
  have hFc := va_free (wc := [(h0, .inr (6, [.ref a1, .int 0, .int (-1), .ref n0, .ref r0, .ref j0, .ref p0])), (p0, .inr (3, [.ref n0, .ref p1, .ref p2, .int 0, .int (-1), .int 0])), (n0, .inr (2, [.ref b1, .ref b2, .ref b3, .ref b4, .ref b5, .int 0]))]) hD hS hA [0, 1, 2] rfl
  refine vx_calli (vx_runV (As := [.int x]) (rest := [.int 0, .ref o0]) ⟨hx, hb, hml, hown, hg⟩ (c_X6_outP l dC dI cI cZ cL h0 p0 n0 (Array.size _) r0 j0 a1 p1 p2 b1 b2 b3 b4 b5 x hst hn) (cwV 1 hg (gw_V k_305 k_306 k_307 k_280 g_yX6_out) rfl rfl rfl (by decide +kernel) ⟨(Nat.le_of_ble_eq_true rfl), (Nat.le_of_ble_eq_true rfl)⟩) ⟨hpx_bl, va_recv hK hPc (ci := 6) (q0 := 0) rfl rfl, fun U hU hW => hpx_ok hU hW hPc hK hDc hE hS hFc⟩ rfl rfl hl.1 rfl (lv_room (Nat.le_of_ble_eq_true rfl)) dL_out_4 ⟨(Nat.le_of_ble_eq_true rfl), (Nat.le_of_ble_eq_true rfl)⟩) hS (fun q _ h => hFc q h) hFc (fun q _ h => hFc q h) (fun E9 ce9 q9 u t H locs ht hvm hw hB hz1 hk1 hS hce hcv hcl => ?_) (fun r9 u t H locs ht hvm hw hB hz1 hk1 hS => hw.elim)
  obtain rfl := hB
  obtain ⟨hP, hD⟩ := va_join (wr := [(o0, .inl (cL, 1, .inr (.inl g)))]) (w1 := []) hP hD [0, 1, 2] [3] rfl rfl (by decide) (by decide) hk1 hFc nil_P nil_D
  have hP : va_P (dC, dI) vwCl [(o0, .inl (cL, 1, .inr (.inl g)))] H := hP
  have hD : va_D A [(o0, .inl (cL, 1, .inr (.inl g)))] := hD
  refine vx_widen (k := 1) (n := 6) (Nat.le_of_ble_eq_true rfl) (Nat.le_of_ble_eq_true rfl) ?_
  refine ct_catch (own := RL) (name := "java/lang/IndexOutOfBoundsException") hown _ _ hct (by decide) (by decide) (hg _ k_308) (va_Nw.use rfl hE.2.1) hce hcv hcl ?_
  refine W.eq (g2 := F0 m 12 ls [.ref q9]) rfl ?_
  refine lv_astore_n (lv' := [(3, .ref q9), (0, .ref h0), (1, .int x), (2, .ref o0)]) hx hb dL_out_12 rfl hl (by decide) rfl (fun ls hl => ?_)
  refine lv_iconst (v := 1) hx hb dL_out_13 (by decide) ?_
  have hP9 := hP.sub (ws' := [(o0, .inl (cL, 1, .inr (.inl g)))]) [0] rfl
  have hD9 := hD.sub (ws' := [(o0, .inl (cL, 1, .inr (.inl g)))]) [0] (by decide) rfl
  refine W.widen (k := 1) (n := 6) (Nat.le_of_ble_eq_true rfl) (Nat.le_of_ble_eq_true rfl) ?_
  exact W.iret (v := 1) hx hb hr (fun t ht hW => ⟨⟨1, (), rfl, rfl, by rw [ht]; exact hP9, hD9⟩, hS.F ht⟩) hS.2.2 dL_out_14
