/-- the loop of Arrays.fill over a row of 26 -/
theorem lp_fill {p : Program} {l : Launch} {e : Env} {R : Room} {s : State} {m : MethodId} {args : Array Value} {below : List Frame} {meth : Method} {c : Code} {Q : State → Prop} {cells slots : Nat} {dC : Nat → ClassId} {dI : Nat → Nat → Nat} {cI cZ cL : ClassId} {A : Nat → Prop} {a0 : Nat} {x : Int32} (hx : p.tables.exec = Jvm.exec) (hb : c.code = cJ7_fill_53178) (hK : va_K (dC, dI) vwCl (t3 cI cZ cL) s)
    (kk : ∀ (f : Nat → Int32) (H : Heap) (locs : List Loc) (ls : Array Slot), va_P (dC, dI) vwCl [(a0, .inl (cI, 26, .inl f))] H → va_D A [(a0, .inl (cI, 26, .inl f))] → va_S A s.heap H locs → W p l e R s m args below meth c H locs cells slots Q (F0 m 20 ls [])) :
    ∀ (k i : Nat), i + k = 26 → ∀ (f : Nat → Int32) (H : Heap) (locs : List Loc) (ls : Array Slot), va_P (dC, dI) vwCl [(a0, .inl (cI, 26, .inl f))] H → va_D A [(a0, .inl (cI, 26, .inl f))] → va_S A s.heap H locs → lv_has ls 4 [(0, .ref a0), (1, .int x), (2, .int (nI i)), (3, .int 26)] → W p l e R s m args below meth c H locs cells slots Q (F0 m 5 ls []) := by
  intro k
  induction k with
  | zero =>
    intro i hi f H locs ls hP hD hS hl
    refine lv_iload_n hx hb dJ7_fill_53178_5 rfl (lv_at hl 2 rfl) ?_
    refine lv_iload_n hx hb dJ7_fill_53178_6 rfl (lv_at hl 3 rfl) ?_
    refine lv_icmp_ge (tgt := 20) hx hb dJ7_fill_53178_7 (by decide) (fun _ => kk f H locs ls hP hD hS) (fun c9 => absurd ?_ c9)
    exact nI_le (a := 26) (b := i) (by omega) (by omega)
  | succ k ih =>
    intro i hi f H locs ls hP hD hS hl
    refine lv_iload_n hx hb dJ7_fill_53178_5 rfl (lv_at hl 2 rfl) ?_
    refine lv_iload_n hx hb dJ7_fill_53178_6 rfl (lv_at hl 3 rfl) ?_
    refine lv_icmp_ge (tgt := 20) hx hb dJ7_fill_53178_7 (by decide) (fun c9 => absurd c9 (nI_ge (a := i) (b := 26) (by omega) (by omega))) (fun _ => ?_)
    refine lv_aload_n hx hb dJ7_fill_53178_10 rfl (lv_at hl 0 rfl) ?_
    refine lv_iload_n hx hb dJ7_fill_53178_11 rfl (lv_at hl 2 rfl) ?_
    refine lv_iload_n hx hb dJ7_fill_53178_12 rfl (lv_at hl 1 rfl) ?_
    refine va_iast hx hb hK hP hD hS 0 0 rfl rfl (vp_in_nI (by omega) (by omega)) dJ7_fill_53178_13 (fun H locs hP hD hS => ?_)
    obtain ⟨f1, hP, hD⟩ : ∃ g : Nat → Int32, va_P (dC, dI) vwCl [(a0, .inl (cI, 26, .inl g))] H ∧ va_D A [(a0, .inl (cI, 26, .inl g))] := ⟨_, hP, hD⟩
    refine lv_iinc (v := nI (i + 1)) (lv' := [(2, .int (nI (i + 1))), (0, .ref a0), (1, .int x), (3, .int 26)]) hx hb dJ7_fill_53178_14 hl (k := 2) rfl (nI_1 i) (by decide) rfl (fun ls hl => ?_)
    refine lv_goto (tgt := 5) hx hb dJ7_fill_53178_17 (by decide) ?_
    exact ih (i + 1) (by omega) f1 H locs ls hP hD hS (lv_sub hl [1, 2, 0, 3] rfl)

set_option maxHeartbeats 4000000 in
set_option maxRecDepth 100000 in
/-- Arrays.fill over a row of 26 -/
theorem c_fill (l : Launch) (dC : Nat → ClassId) (dI : Nat → Nat → Nat) (cI cZ cL : ClassId) (a0 : Nat) (sz : Nat) (f : Nat → Int32) (x : Int32) : Met l yJ7_fill_53178 (wd yJ7_fill_53178 cJ7_fill_53178 4 none) ({ frames := 0, cells := 0, slots := 0, locals := 0 }) (va_Pc [.ref a0, .int x] (hp dC dI cI cZ cL sz [(a0, .inl (cI, 26, .inl f))])) (va_Qv (fun (_ : Unit) => True) (fun (_ : Unit) t => va_P (dC, dI) vwCl [] t.heap ∧ va_D (va_A [(a0, .inl (cI, 26, .inl f))] sz) []) (va_A [(a0, .inl (cI, 26, .inl f))] sz)) 0 0 (va_A [(a0, .inl (cI, 26, .inl f))] sz) := by
  refine Met.ofW (cc := cJ7_fill_53178) (maxL := 4) (ret := none) (by decide) rfl ?_
  intro p e s m args below meth c s₁ B hml hv
  obtain ⟨rfl, hsz, hP, hK, hD0⟩ := hv
  have hx := B.exec
  have hb := B.bytes
  have hr := B.returns
  have hw9 := atoms_spec (ws := (wd yJ7_fill_53178 cJ7_fill_53178 4 none)) B.pre
  have hg := gw_hts hw9
  have hown : s.vm.findClass RJ7 = some m.cls := findClass_of_methodNamed B.named
  have hlocks := B.notSynchronized
  subst hsz
  have hD := hD0.self (sz := s.heap.size)
  generalize hAe : va_A [(a0, .inl (cI, 26, .inl f))] s.heap.size = A at hD ⊢
  have hA : ∀ q : Nat, s.heap.size ≤ q → A q := fun q h => by rw [← hAe]; exact Or.inr h
  have hS : va_S A s.heap s.heap [] := va_S.rf
  have hl := lv_entry ([.ref a0, .int x]) (n := 4) (Nat.le_of_ble_eq_true rfl)
  rw [lg_entry_eq]
  generalize (lg_sl ([.ref a0, .int x]) ++ List.replicate (4 - (lg_sl ([.ref a0, .int x])).length) Slot.unset).toArray = ls at hl ⊢
  have hl : lv_has ls 4 [(0, .ref a0), (1, .int x)] := hl
  refine lv_iconst (v := 0) hx hb dJ7_fill_53178_0 (by decide) ?_
  refine lv_istore_n (lv' := [(2, .int 0), (0, .ref a0), (1, .int x)]) hx hb dJ7_fill_53178_1 rfl hl (by decide) rfl (fun ls hl => ?_)
  refine lv_aload_n hx hb dJ7_fill_53178_2 rfl (lv_at hl 1 rfl) ?_
  refine va_alen hx hb hK hP 0 0 (ty := .int) rfl rfl (v := 26) rfl dJ7_fill_53178_3 ?_
  refine lv_istore_n (lv' := [(3, .int 26), (2, .int 0), (0, .ref a0), (1, .int x)]) hx hb dJ7_fill_53178_4 rfl hl (by decide) rfl (fun ls hl => ?_)
  refine W.widen (k := 0) (n := 0) (Nat.le_of_ble_eq_true rfl) (Nat.le_of_ble_eq_true rfl) ?_
  refine lp_fill hx hb hK (fun f H locs ls hP hD hS => ?_) 26 0 rfl f _ _ ls hP hD hS (lv_sub hl [2, 3, 1, 0] rfl)
  have hP9 := hP.sub (ws' := []) [] rfl
  have hD9 := hD.sub (ws' := []) [] (by decide) rfl
  refine W.widen (k := 0) (n := 0) (Nat.le_of_ble_eq_true rfl) (Nat.le_of_ble_eq_true rfl) ?_
  exact W.vret hx hb hr (fun t ht hW => ⟨⟨(), rfl, trivial, by rw [ht]; exact hP9, hD9⟩, hS.F ht⟩) hS.2.2 dJ7_fill_53178_20

set_option maxHeartbeats 4000000 in
set_option maxRecDepth 100000 in
/-- Reader.start(0) -/
theorem c_X4_start (l : Launch) (dC : Nat → ClassId) (dI : Nat → Nat → Nat) (cI cZ cL : ClassId) (h0 a1 a2 : Nat) (sz : Nat) (n0 a3 : Nat) : Met l yX4_start (wd yX4_start cX4_start 2 none) ({ frames := 1, cells := 0, slots := 0, locals := 23 }) (va_Pc [.ref h0, .int 0] (hp dC dI cI cZ cL sz [(h0, .inr (4, [.ref n0, .ref a1, .ref a2, .ref a3, .int 0, .int 0, .int 0, .int 0, .int (-1)])), (a1, .inl (cI, 60, .inl zI)), (a2, .inl (cI, 26, .inl zI))])) (va_Qv (fun (_ : Unit) => True) (fun (_ : Unit) t => va_P (dC, dI) vwCl [(h0, .inr (4, [.ref n0, .ref a1, .ref a2, .ref a3, .int 0, .int 0, .int 0, .int 0, .int (-1)]))] t.heap ∧ va_D (va_A [(h0, .inr (4, [.ref n0, .ref a1, .ref a2, .ref a3, .int 0, .int 0, .int 0, .int 0, .int (-1)])), (a1, .inl (cI, 60, .inl zI)), (a2, .inl (cI, 26, .inl zI))] sz) [(h0, .inr (4, [.ref n0, .ref a1, .ref a2, .ref a3, .int 0, .int 0, .int 0, .int 0, .int (-1)]))]) (va_A [(h0, .inr (4, [.ref n0, .ref a1, .ref a2, .ref a3, .int 0, .int 0, .int 0, .int 0, .int (-1)])), (a1, .inl (cI, 60, .inl zI)), (a2, .inl (cI, 26, .inl zI))] sz)) 0 0 (va_A [(h0, .inr (4, [.ref n0, .ref a1, .ref a2, .ref a3, .int 0, .int 0, .int 0, .int 0, .int (-1)])), (a1, .inl (cI, 60, .inl zI)), (a2, .inl (cI, 26, .inl zI))] sz) := by
  refine Met.ofW (cc := cX4_start) (maxL := 2) (ret := none) (by decide) rfl ?_
  intro p e s m args below meth c s₁ B hml hv
  obtain ⟨rfl, hsz, hP, hK, hD0⟩ := hv
  have hx := B.exec
  have hb := B.bytes
  have hr := B.returns
  have hw9 := atoms_spec (ws := (wd yX4_start cX4_start 2 none)) B.pre
  have hg := gw_hts hw9
  have hown : s.vm.findClass RX4 = some m.cls := findClass_of_methodNamed B.named
  have hlocks := B.notSynchronized
  subst hsz
  have hD := hD0.self (sz := s.heap.size)
  generalize hAe : va_A [(h0, .inr (4, [.ref n0, .ref a1, .ref a2, .ref a3, .int 0, .int 0, .int 0, .int 0, .int (-1)])), (a1, .inl (cI, 60, .inl zI)), (a2, .inl (cI, 26, .inl zI))] s.heap.size = A at hD ⊢
  have hA : ∀ q : Nat, s.heap.size ≤ q → A q := fun q h => by rw [← hAe]; exact Or.inr h
  have hS : va_S A s.heap s.heap [] := va_S.rf
  have hl := lv_entry ([.ref h0, .int 0]) (n := 2) (Nat.le_of_ble_eq_true rfl)
  rw [lg_entry_eq]
  generalize (lg_sl ([.ref h0, .int 0]) ++ List.replicate (2 - (lg_sl ([.ref h0, .int 0])).length) Slot.unset).toArray = ls at hl ⊢
  have hl : lv_has ls 2 [(0, .ref h0), (1, .int 0)] := hl
  refine lv_aload_n hx hb dX4_start_0 rfl (lv_at hl 0 rfl) ?_
  refine lv_iload_n hx hb dX4_start_1 rfl (lv_at hl 1 rfl) ?_
  refine lv_aload_n hx hb dX4_start_2 rfl (lv_at hl 0 rfl) ?_
  refine va_get (D := (dC, dI)) (ci := 4) (v := .ref a1) (C := RX4) (T := TX4) (N := 9) hx hb hg i_X4 hown hK hP 0 rfl rfl 1 (by decide) (hg _ k_69) (fun _ h9 => h9) rfl dX4_start_3 ?_
  refine va_alen hx hb hK hP 1 0 (ty := .int) rfl rfl (v := 60) rfl dX4_start_6 ?_
  refine va_mmin hx hb (by rw [hml]; exact hl.1.symm) hown (hg _ k_140) (hg _ k_141) (hg _ k_142) (hg _ k_143) (Nat.le_of_ble_eq_true rfl) (Nat.le_of_ble_eq_true rfl) (Nat.le_of_ble_eq_true rfl) (Nat.le_of_ble_eq_true rfl) dX4_start_7 ?_
  refine lv_topi (fun z1 ez1 => ?_)
  obtain rfl : z1 = 0 := ez1.trans (by decide)
  refine va_put (D := (dC, dI)) (ci := 4) (v := .int 0) (ty := .int) (C := RX4) (T := TX4) (N := 9) hx hb hg i_X4 tyX4 tyX4_ok nmX4 hown hK hP hD hS 0 rfl rfl 5 (by decide) (hg _ k_64) (fun _ h9 => h9) rfl (by decide +kernel) rfl rfl (Nat.le_of_ble_eq_true rfl) dX4_start_10 (fun H locs hP hD hS => ?_)
  have hP : va_P (dC, dI) vwCl [(h0, .inr (4, [.ref n0, .ref a1, .ref a2, .ref a3, .int 0, .int 0, .int 0, .int 0, .int (-1)])), (a1, .inl (cI, 60, .inl zI)), (a2, .inl (cI, 26, .inl zI))] H := hP
  have hD : va_D A [(h0, .inr (4, [.ref n0, .ref a1, .ref a2, .ref a3, .int 0, .int 0, .int 0, .int 0, .int (-1)])), (a1, .inl (cI, 60, .inl zI)), (a2, .inl (cI, 26, .inl zI))] := hD
  refine lv_aload_n hx hb dX4_start_13 rfl (lv_at hl 0 rfl) ?_
  refine lv_iconst (v := 0) hx hb dX4_start_14 (by decide) ?_
  refine va_put (D := (dC, dI)) (ci := 4) (v := .int 0) (ty := .int) (C := RX4) (T := TX4) (N := 9) hx hb hg i_X4 tyX4 tyX4_ok nmX4 hown hK hP hD hS 0 rfl rfl 6 (by decide) (hg _ k_65) (fun _ h9 => h9) rfl (by decide +kernel) rfl rfl (Nat.le_of_ble_eq_true rfl) dX4_start_15 (fun H locs hP hD hS => ?_)
  have hP : va_P (dC, dI) vwCl [(h0, .inr (4, [.ref n0, .ref a1, .ref a2, .ref a3, .int 0, .int 0, .int 0, .int 0, .int (-1)])), (a1, .inl (cI, 60, .inl zI)), (a2, .inl (cI, 26, .inl zI))] H := hP
  have hD : va_D A [(h0, .inr (4, [.ref n0, .ref a1, .ref a2, .ref a3, .int 0, .int 0, .int 0, .int 0, .int (-1)])), (a1, .inl (cI, 60, .inl zI)), (a2, .inl (cI, 26, .inl zI))] := hD
  refine lv_aload_n hx hb dX4_start_18 rfl (lv_at hl 0 rfl) ?_
  refine lv_iconst (v := 0) hx hb dX4_start_19 (by decide) ?_
  refine va_put (D := (dC, dI)) (ci := 4) (v := .int 0) (ty := .int) (C := RX4) (T := TX4) (N := 9) hx hb hg i_X4 tyX4 tyX4_ok nmX4 hown hK hP hD hS 0 rfl rfl 7 (by decide) (hg _ k_66) (fun _ h9 => h9) rfl (by decide +kernel) rfl rfl (Nat.le_of_ble_eq_true rfl) dX4_start_20 (fun H locs hP hD hS => ?_)
  have hP : va_P (dC, dI) vwCl [(h0, .inr (4, [.ref n0, .ref a1, .ref a2, .ref a3, .int 0, .int 0, .int 0, .int 0, .int (-1)])), (a1, .inl (cI, 60, .inl zI)), (a2, .inl (cI, 26, .inl zI))] H := hP
  have hD : va_D A [(h0, .inr (4, [.ref n0, .ref a1, .ref a2, .ref a3, .int 0, .int 0, .int 0, .int 0, .int (-1)])), (a1, .inl (cI, 60, .inl zI)), (a2, .inl (cI, 26, .inl zI))] := hD
  refine lv_aload_n hx hb dX4_start_23 rfl (lv_at hl 0 rfl) ?_
  refine lv_iconst (v := (-1)) hx hb dX4_start_24 (by decide) ?_
  refine va_put (D := (dC, dI)) (ci := 4) (v := .int (-1)) (ty := .int) (C := RX4) (T := TX4) (N := 9) hx hb hg i_X4 tyX4 tyX4_ok nmX4 hown hK hP hD hS 0 rfl rfl 8 (by decide) (hg _ k_67) (fun _ h9 => h9) rfl (by decide +kernel) rfl rfl (Nat.le_of_ble_eq_true rfl) dX4_start_25 (fun H locs hP hD hS => ?_)
  have hP : va_P (dC, dI) vwCl [(h0, .inr (4, [.ref n0, .ref a1, .ref a2, .ref a3, .int 0, .int 0, .int 0, .int 0, .int (-1)])), (a1, .inl (cI, 60, .inl zI)), (a2, .inl (cI, 26, .inl zI))] H := hP
  have hD : va_D A [(h0, .inr (4, [.ref n0, .ref a1, .ref a2, .ref a3, .int 0, .int 0, .int 0, .int 0, .int (-1)])), (a1, .inl (cI, 60, .inl zI)), (a2, .inl (cI, 26, .inl zI))] := hD
  refine lv_aload_n hx hb dX4_start_28 rfl (lv_at hl 0 rfl) ?_
  refine lv_iconst (v := 0) hx hb dX4_start_29 (by decide) ?_
  refine va_put (D := (dC, dI)) (ci := 4) (v := .int 0) (ty := .int) (C := RX4) (T := TX4) (N := 9) hx hb hg i_X4 tyX4 tyX4_ok nmX4 hown hK hP hD hS 0 rfl rfl 4 (by decide) (hg _ k_63) (fun _ h9 => h9) rfl (by decide +kernel) rfl rfl (Nat.le_of_ble_eq_true rfl) dX4_start_30 (fun H locs hP hD hS => ?_)
  have hP : va_P (dC, dI) vwCl [(h0, .inr (4, [.ref n0, .ref a1, .ref a2, .ref a3, .int 0, .int 0, .int 0, .int 0, .int (-1)])), (a1, .inl (cI, 60, .inl zI)), (a2, .inl (cI, 26, .inl zI))] H := hP
  have hD : va_D A [(h0, .inr (4, [.ref n0, .ref a1, .ref a2, .ref a3, .int 0, .int 0, .int 0, .int 0, .int (-1)])), (a1, .inl (cI, 60, .inl zI)), (a2, .inl (cI, 26, .inl zI))] := hD
  refine lv_aload_n hx hb dX4_start_33 rfl (lv_at hl 0 rfl) ?_
  refine va_get (D := (dC, dI)) (ci := 4) (v := .ref a2) (C := RX4) (T := TX4) (N := 9) hx hb hg i_X4 hown hK hP 0 rfl rfl 2 (by decide) (hg _ k_61) (fun _ h9 => h9) rfl dX4_start_34 ?_
  refine lv_iconst (v := 0) hx hb dX4_start_37 (by decide) ?_
  have hPc := hP.sub (ws' := [(a2, .inl (cI, 26, .inl zI))]) [2] rfl
  have hDc := hD.sub (ws' := [(a2, .inl (cI, 26, .inl zI))]) [2] (by decide) rfl
  have hFc := va_free (wc := [(a2, .inl (cI, 26, .inl zI))]) hD hS hA [2] rfl
  refine va_callv (va_runS (As := [.ref a2, .int 0]) (rest := []) ⟨hx, hb, hml, hown, hg⟩ (c_fill l dC dI cI cZ cL a2 (Array.size _) zI 0) (va_cwS 2 hg (gw_S k_144 k_145 k_146 g_yJ7_fill_53178) rfl rfl rfl (by decide +kernel) ⟨(Nat.le_of_ble_eq_true rfl), (Nat.le_of_ble_eq_true rfl)⟩) ⟨hp_bl, fun U hU hW => hp_ok hU hW hPc hK hDc⟩ rfl rfl hl.1 rfl (lv_room (Nat.le_of_ble_eq_true rfl)) dX4_start_38 ⟨(Nat.le_of_ble_eq_true rfl), (Nat.le_of_ble_eq_true rfl)⟩) hS (fun q _ h => hFc q h) hFc (fun u t H locs ht hvm hw hB hz1 hk1 hS => ?_)
  obtain ⟨hP1, hD1⟩ := hB
  rw [ht] at hP1
  obtain ⟨hP, hD⟩ := va_join (wr := [(h0, .inr (4, [.ref n0, .ref a1, .ref a2, .ref a3, .int 0, .int 0, .int 0, .int 0, .int (-1)])), (a1, .inl (cI, 60, .inl zI))]) (w1 := []) hP hD [2] [0, 1] rfl rfl (by decide) (by decide) hk1 hFc hP1 hD1
  have hP : va_P (dC, dI) vwCl [(h0, .inr (4, [.ref n0, .ref a1, .ref a2, .ref a3, .int 0, .int 0, .int 0, .int 0, .int (-1)])), (a1, .inl (cI, 60, .inl zI))] H := hP
  have hD : va_D A [(h0, .inr (4, [.ref n0, .ref a1, .ref a2, .ref a3, .int 0, .int 0, .int 0, .int 0, .int (-1)])), (a1, .inl (cI, 60, .inl zI))] := hD
  refine W.widen (k := 0) (n := 0) (Nat.le_of_ble_eq_true rfl) (Nat.le_of_ble_eq_true rfl) ?_
  have hP9 := hP.sub (ws' := [(h0, .inr (4, [.ref n0, .ref a1, .ref a2, .ref a3, .int 0, .int 0, .int 0, .int 0, .int (-1)]))]) [0] rfl
  have hD9 := hD.sub (ws' := [(h0, .inr (4, [.ref n0, .ref a1, .ref a2, .ref a3, .int 0, .int 0, .int 0, .int 0, .int (-1)]))]) [0] (by decide) rfl
  refine W.widen (k := 0) (n := 0) (Nat.le_of_ble_eq_true rfl) (Nat.le_of_ble_eq_true rfl) ?_
  exact W.vret hx hb hr (fun t ht hW => ⟨⟨(), rfl, trivial, by rw [ht]; exact hP9, hD9⟩, hS.F ht⟩) hS.2.2 dX4_start_41

set_option maxHeartbeats 4000000 in
set_option maxRecDepth 100000 in
/-- Nodes.make(UNIT, NONE, NONE), nothing used -/
theorem c_X2_make (l : Launch) (dC : Nat → ClassId) (dI : Nat → Nat → Nat) (cI cZ cL : ClassId) (h0 b1 b2 b3 b4 b5 : Nat) (sz : Nat)  : Met l yX2_make (wd yX2_make cX2_make 5 (some .int)) ({ frames := 0, cells := 0, slots := 0, locals := 0 }) (va_Pc [.ref h0, .int 0, .int (-1), .int (-1)] (hp dC dI cI cZ cL sz [(h0, .inr (2, [.ref b1, .ref b2, .ref b3, .ref b4, .ref b5, .int 0])), (b1, .inl (cI, 4096, .inl zI)), (b2, .inl (cI, 4096, .inl zI)), (b3, .inl (cI, 4096, .inl zI)), (b4, .inl (cI, 4096, .inl zI)), (b5, .inl (cZ, 4096, .inl zI))])) (va_Qi (fun (r : Int32) (_ : Unit) => r = 0) (fun (_ : Unit) t => va_P (dC, dI) vwCl [] t.heap ∧ va_D (va_A [(h0, .inr (2, [.ref b1, .ref b2, .ref b3, .ref b4, .ref b5, .int 0])), (b1, .inl (cI, 4096, .inl zI)), (b2, .inl (cI, 4096, .inl zI)), (b3, .inl (cI, 4096, .inl zI)), (b4, .inl (cI, 4096, .inl zI)), (b5, .inl (cZ, 4096, .inl zI))] sz) []) (va_A [(h0, .inr (2, [.ref b1, .ref b2, .ref b3, .ref b4, .ref b5, .int 0])), (b1, .inl (cI, 4096, .inl zI)), (b2, .inl (cI, 4096, .inl zI)), (b3, .inl (cI, 4096, .inl zI)), (b4, .inl (cI, 4096, .inl zI)), (b5, .inl (cZ, 4096, .inl zI))] sz)) 0 0 (va_A [(h0, .inr (2, [.ref b1, .ref b2, .ref b3, .ref b4, .ref b5, .int 0])), (b1, .inl (cI, 4096, .inl zI)), (b2, .inl (cI, 4096, .inl zI)), (b3, .inl (cI, 4096, .inl zI)), (b4, .inl (cI, 4096, .inl zI)), (b5, .inl (cZ, 4096, .inl zI))] sz) := by
  refine Met.ofW (cc := cX2_make) (maxL := 5) (ret := (some .int)) (by decide) rfl ?_
  intro p e s m args below meth c s₁ B hml hv
  obtain ⟨rfl, hsz, hP, hK, hD0⟩ := hv
  have hx := B.exec
  have hb := B.bytes
  have hr := B.returns
  have hw9 := atoms_spec (ws := (wd yX2_make cX2_make 5 (some .int))) B.pre
  have hg := gw_hts hw9
  have hown : s.vm.findClass RX2 = some m.cls := findClass_of_methodNamed B.named
  have hlocks := B.notSynchronized
  subst hsz
  have hD := hD0.self (sz := s.heap.size)
  generalize hAe : va_A [(h0, .inr (2, [.ref b1, .ref b2, .ref b3, .ref b4, .ref b5, .int 0])), (b1, .inl (cI, 4096, .inl zI)), (b2, .inl (cI, 4096, .inl zI)), (b3, .inl (cI, 4096, .inl zI)), (b4, .inl (cI, 4096, .inl zI)), (b5, .inl (cZ, 4096, .inl zI))] s.heap.size = A at hD ⊢
  have hA : ∀ q : Nat, s.heap.size ≤ q → A q := fun q h => by rw [← hAe]; exact Or.inr h
  have hS : va_S A s.heap s.heap [] := va_S.rf
  have hl := lv_entry ([.ref h0, .int 0, .int (-1), .int (-1)]) (n := 5) (Nat.le_of_ble_eq_true rfl)
  rw [lg_entry_eq]
  generalize (lg_sl ([.ref h0, .int 0, .int (-1), .int (-1)]) ++ List.replicate (5 - (lg_sl ([.ref h0, .int 0, .int (-1), .int (-1)])).length) Slot.unset).toArray = ls at hl ⊢
  have hl : lv_has ls 5 [(0, .ref h0), (1, .int 0), (2, .int (-1)), (3, .int (-1))] := hl
  refine lv_aload_n hx hb dX2_make_0 rfl (lv_at hl 0 rfl) ?_
  refine va_get (D := (dC, dI)) (ci := 2) (v := .int 0) (C := RX2) (T := TX2) (N := 6) hx hb hg i_X2 hown hK hP 0 rfl rfl 5 (by decide) (hg _ k_52) (fun _ h9 => h9) rfl dX2_make_1 ?_
  refine lv_sipush (v := 4096) hx hb dX2_make_4 (by decide) ?_
  refine lv_icmp_lt (tgt := 12) hx hb dX2_make_7 (by decide) (fun _ => ?_) (fun c9 => absurd (by decide) c9)
  refine lv_aload_n hx hb dX2_make_12 rfl (lv_at hl 0 rfl) ?_
  refine va_get (D := (dC, dI)) (ci := 2) (v := .int 0) (C := RX2) (T := TX2) (N := 6) hx hb hg i_X2 hown hK hP 0 rfl rfl 5 (by decide) (hg _ k_52) (fun _ h9 => h9) rfl dX2_make_13 ?_
  refine lv_istore (lv' := [(4, .int 0), (0, .ref h0), (1, .int 0), (2, .int (-1)), (3, .int (-1))]) hx hb dX2_make_16 hl (by decide) rfl (fun ls hl => ?_)
  refine lv_aload_n hx hb dX2_make_18 rfl (lv_at hl 1 rfl) ?_
  refine lv_dup hx hb dX2_make_19 rfl ?_
  refine va_get (D := (dC, dI)) (ci := 2) (v := .int 0) (C := RX2) (T := TX2) (N := 6) hx hb hg i_X2 hown hK hP 0 rfl rfl 5 (by decide) (hg _ k_52) (fun _ h9 => h9) rfl dX2_make_20 ?_
  refine lv_iconst (v := 1) hx hb dX2_make_23 (by decide) ?_
  refine lv_iadd hx hb dX2_make_24 ?_
  refine lv_topi (fun z1 ez1 => ?_)
  obtain rfl : z1 = 1 := ez1.trans (by decide)
  refine va_put (D := (dC, dI)) (ci := 2) (v := .int 1) (ty := .int) (C := RX2) (T := TX2) (N := 6) hx hb hg i_X2 tyX2 tyX2_ok nmX2 hown hK hP hD hS 0 rfl rfl 5 (by decide) (hg _ k_52) (fun _ h9 => h9) rfl (by decide +kernel) rfl rfl (Nat.le_of_ble_eq_true rfl) dX2_make_25 (fun H locs hP hD hS => ?_)
  have hP : va_P (dC, dI) vwCl [(h0, .inr (2, [.ref b1, .ref b2, .ref b3, .ref b4, .ref b5, .int 1])), (b1, .inl (cI, 4096, .inl zI)), (b2, .inl (cI, 4096, .inl zI)), (b3, .inl (cI, 4096, .inl zI)), (b4, .inl (cI, 4096, .inl zI)), (b5, .inl (cZ, 4096, .inl zI))] H := hP
  have hD : va_D A [(h0, .inr (2, [.ref b1, .ref b2, .ref b3, .ref b4, .ref b5, .int 1])), (b1, .inl (cI, 4096, .inl zI)), (b2, .inl (cI, 4096, .inl zI)), (b3, .inl (cI, 4096, .inl zI)), (b4, .inl (cI, 4096, .inl zI)), (b5, .inl (cZ, 4096, .inl zI))] := hD
  refine lv_aload_n hx hb dX2_make_28 rfl (lv_at hl 1 rfl) ?_
  refine va_get (D := (dC, dI)) (ci := 2) (v := .ref b1) (C := RX2) (T := TX2) (N := 6) hx hb hg i_X2 hown hK hP 0 rfl rfl 0 (by decide) (hg _ k_46) (fun _ h9 => h9) rfl dX2_make_29 ?_
  refine lv_iload hx hb dX2_make_32 (lv_at hl 0 rfl) ?_
  refine lv_iload_n hx hb dX2_make_34 rfl (lv_at hl 2 rfl) ?_
  refine va_iast hx hb hK hP hD hS 1 0 rfl rfl (vp_lit (by decide) (by decide)) dX2_make_35 (fun H locs hP hD hS => ?_)
  generalize upd zI (Int32.toNatClampNeg 0) (0 : Int32) = f2 at hP hD
  have hP : va_P (dC, dI) vwCl [(h0, .inr (2, [.ref b1, .ref b2, .ref b3, .ref b4, .ref b5, .int 1])), (b1, .inl (cI, 4096, .inl f2)), (b2, .inl (cI, 4096, .inl zI)), (b3, .inl (cI, 4096, .inl zI)), (b4, .inl (cI, 4096, .inl zI)), (b5, .inl (cZ, 4096, .inl zI))] H := hP
  have hD : va_D A [(h0, .inr (2, [.ref b1, .ref b2, .ref b3, .ref b4, .ref b5, .int 1])), (b1, .inl (cI, 4096, .inl f2)), (b2, .inl (cI, 4096, .inl zI)), (b3, .inl (cI, 4096, .inl zI)), (b4, .inl (cI, 4096, .inl zI)), (b5, .inl (cZ, 4096, .inl zI))] := hD
  refine lv_aload_n hx hb dX2_make_36 rfl (lv_at hl 1 rfl) ?_
  refine va_get (D := (dC, dI)) (ci := 2) (v := .ref b2) (C := RX2) (T := TX2) (N := 6) hx hb hg i_X2 hown hK hP 0 rfl rfl 1 (by decide) (hg _ k_47) (fun _ h9 => h9) rfl dX2_make_37 ?_
  refine lv_iload hx hb dX2_make_40 (lv_at hl 0 rfl) ?_
  refine lv_iload_n hx hb dX2_make_42 rfl (lv_at hl 3 rfl) ?_
  refine va_iast hx hb hK hP hD hS 2 0 rfl rfl (vp_lit (by decide) (by decide)) dX2_make_43 (fun H locs hP hD hS => ?_)
  generalize upd zI (Int32.toNatClampNeg 0) ((-1) : Int32) = f3 at hP hD
  have hP : va_P (dC, dI) vwCl [(h0, .inr (2, [.ref b1, .ref b2, .ref b3, .ref b4, .ref b5, .int 1])), (b1, .inl (cI, 4096, .inl f2)), (b2, .inl (cI, 4096, .inl f3)), (b3, .inl (cI, 4096, .inl zI)), (b4, .inl (cI, 4096, .inl zI)), (b5, .inl (cZ, 4096, .inl zI))] H := hP
  have hD : va_D A [(h0, .inr (2, [.ref b1, .ref b2, .ref b3, .ref b4, .ref b5, .int 1])), (b1, .inl (cI, 4096, .inl f2)), (b2, .inl (cI, 4096, .inl f3)), (b3, .inl (cI, 4096, .inl zI)), (b4, .inl (cI, 4096, .inl zI)), (b5, .inl (cZ, 4096, .inl zI))] := hD
  refine lv_aload_n hx hb dX2_make_44 rfl (lv_at hl 1 rfl) ?_
  refine va_get (D := (dC, dI)) (ci := 2) (v := .ref b3) (C := RX2) (T := TX2) (N := 6) hx hb hg i_X2 hown hK hP 0 rfl rfl 2 (by decide) (hg _ k_48) (fun _ h9 => h9) rfl dX2_make_45 ?_
  refine lv_iload hx hb dX2_make_48 (lv_at hl 0 rfl) ?_
  refine lv_iload_n hx hb dX2_make_50 rfl (lv_at hl 4 rfl) ?_
  refine va_iast hx hb hK hP hD hS 3 0 rfl rfl (vp_lit (by decide) (by decide)) dX2_make_51 (fun H locs hP hD hS => ?_)
  generalize upd zI (Int32.toNatClampNeg 0) ((-1) : Int32) = f4 at hP hD
  have hP : va_P (dC, dI) vwCl [(h0, .inr (2, [.ref b1, .ref b2, .ref b3, .ref b4, .ref b5, .int 1])), (b1, .inl (cI, 4096, .inl f2)), (b2, .inl (cI, 4096, .inl f3)), (b3, .inl (cI, 4096, .inl f4)), (b4, .inl (cI, 4096, .inl zI)), (b5, .inl (cZ, 4096, .inl zI))] H := hP
  have hD : va_D A [(h0, .inr (2, [.ref b1, .ref b2, .ref b3, .ref b4, .ref b5, .int 1])), (b1, .inl (cI, 4096, .inl f2)), (b2, .inl (cI, 4096, .inl f3)), (b3, .inl (cI, 4096, .inl f4)), (b4, .inl (cI, 4096, .inl zI)), (b5, .inl (cZ, 4096, .inl zI))] := hD
  refine lv_aload_n hx hb dX2_make_52 rfl (lv_at hl 1 rfl) ?_
  refine va_get (D := (dC, dI)) (ci := 2) (v := .ref b4) (C := RX2) (T := TX2) (N := 6) hx hb hg i_X2 hown hK hP 0 rfl rfl 3 (by decide) (hg _ k_49) (fun _ h9 => h9) rfl dX2_make_53 ?_
  refine lv_iload hx hb dX2_make_56 (lv_at hl 0 rfl) ?_
  refine lv_iconst (v := 0) hx hb dX2_make_58 (by decide) ?_
  refine va_iast hx hb hK hP hD hS 4 0 rfl rfl (vp_lit (by decide) (by decide)) dX2_make_59 (fun H locs hP hD hS => ?_)
  generalize upd zI (Int32.toNatClampNeg 0) (0 : Int32) = f5 at hP hD
  have hP : va_P (dC, dI) vwCl [(h0, .inr (2, [.ref b1, .ref b2, .ref b3, .ref b4, .ref b5, .int 1])), (b1, .inl (cI, 4096, .inl f2)), (b2, .inl (cI, 4096, .inl f3)), (b3, .inl (cI, 4096, .inl f4)), (b4, .inl (cI, 4096, .inl f5)), (b5, .inl (cZ, 4096, .inl zI))] H := hP
  have hD : va_D A [(h0, .inr (2, [.ref b1, .ref b2, .ref b3, .ref b4, .ref b5, .int 1])), (b1, .inl (cI, 4096, .inl f2)), (b2, .inl (cI, 4096, .inl f3)), (b3, .inl (cI, 4096, .inl f4)), (b4, .inl (cI, 4096, .inl f5)), (b5, .inl (cZ, 4096, .inl zI))] := hD
  refine lv_aload_n hx hb dX2_make_60 rfl (lv_at hl 1 rfl) ?_
  refine va_get (D := (dC, dI)) (ci := 2) (v := .ref b5) (C := RX2) (T := TX2) (N := 6) hx hb hg i_X2 hown hK hP 0 rfl rfl 4 (by decide) (hg _ k_51) (fun _ h9 => h9) rfl dX2_make_61 ?_
  refine lv_iload hx hb dX2_make_64 (lv_at hl 0 rfl) ?_
  refine lv_iconst (v := 1) hx hb dX2_make_66 (by decide) ?_
  refine va_zast hx hb hK hP hD hS 5 1 rfl rfl (vp_lit (by decide) (by decide)) dX2_make_67 (fun H locs hP hD hS => ?_)
  generalize upd zI (Int32.toNatClampNeg 0) (vp_nar .boolean (1 : Int32)) = f6 at hP hD
  have hP : va_P (dC, dI) vwCl [(h0, .inr (2, [.ref b1, .ref b2, .ref b3, .ref b4, .ref b5, .int 1])), (b1, .inl (cI, 4096, .inl f2)), (b2, .inl (cI, 4096, .inl f3)), (b3, .inl (cI, 4096, .inl f4)), (b4, .inl (cI, 4096, .inl f5)), (b5, .inl (cZ, 4096, .inl f6))] H := hP
  have hD : va_D A [(h0, .inr (2, [.ref b1, .ref b2, .ref b3, .ref b4, .ref b5, .int 1])), (b1, .inl (cI, 4096, .inl f2)), (b2, .inl (cI, 4096, .inl f3)), (b3, .inl (cI, 4096, .inl f4)), (b4, .inl (cI, 4096, .inl f5)), (b5, .inl (cZ, 4096, .inl f6))] := hD
  refine lv_iload hx hb dX2_make_68 (lv_at hl 0 rfl) ?_
  have hP9 := hP.sub (ws' := []) [] rfl
  have hD9 := hD.sub (ws' := []) [] (by decide) rfl
  refine W.widen (k := 0) (n := 0) (Nat.le_of_ble_eq_true rfl) (Nat.le_of_ble_eq_true rfl) ?_
  exact W.iret (v := 0) hx hb hr (fun t ht hW => ⟨⟨0, (), rfl, rfl, by rw [ht]; exact hP9, hD9⟩, hS.F ht⟩) hS.2.2 dX2_make_70

set_option maxHeartbeats 4000000 in
set_option maxRecDepth 100000 in
/-- Nodes.clear() -/
theorem c_X2_clear (l : Launch) (dC : Nat → ClassId) (dI : Nat → Nat → Nat) (cI cZ cL : ClassId) (h0 b1 b2 b3 b4 b5 : Nat) (sz : Nat)  : Met l yX2_clear (wd yX2_clear cX2_clear 1 none) ({ frames := 1, cells := 0, slots := 0, locals := 24 }) (va_Pc [.ref h0] (hp dC dI cI cZ cL sz [(h0, .inr (2, [.ref b1, .ref b2, .ref b3, .ref b4, .ref b5, .int 0])), (b1, .inl (cI, 4096, .inl zI)), (b2, .inl (cI, 4096, .inl zI)), (b3, .inl (cI, 4096, .inl zI)), (b4, .inl (cI, 4096, .inl zI)), (b5, .inl (cZ, 4096, .inl zI))])) (va_Qv (fun (_ : Unit) => True) (fun (_ : Unit) t => va_P (dC, dI) vwCl [] t.heap ∧ va_D (va_A [(h0, .inr (2, [.ref b1, .ref b2, .ref b3, .ref b4, .ref b5, .int 0])), (b1, .inl (cI, 4096, .inl zI)), (b2, .inl (cI, 4096, .inl zI)), (b3, .inl (cI, 4096, .inl zI)), (b4, .inl (cI, 4096, .inl zI)), (b5, .inl (cZ, 4096, .inl zI))] sz) []) (va_A [(h0, .inr (2, [.ref b1, .ref b2, .ref b3, .ref b4, .ref b5, .int 0])), (b1, .inl (cI, 4096, .inl zI)), (b2, .inl (cI, 4096, .inl zI)), (b3, .inl (cI, 4096, .inl zI)), (b4, .inl (cI, 4096, .inl zI)), (b5, .inl (cZ, 4096, .inl zI))] sz)) 0 0 (va_A [(h0, .inr (2, [.ref b1, .ref b2, .ref b3, .ref b4, .ref b5, .int 0])), (b1, .inl (cI, 4096, .inl zI)), (b2, .inl (cI, 4096, .inl zI)), (b3, .inl (cI, 4096, .inl zI)), (b4, .inl (cI, 4096, .inl zI)), (b5, .inl (cZ, 4096, .inl zI))] sz) := by
  refine Met.ofW (cc := cX2_clear) (maxL := 1) (ret := none) (by decide) rfl ?_
  intro p e s m args below meth c s₁ B hml hv
  obtain ⟨rfl, hsz, hP, hK, hD0⟩ := hv
  have hx := B.exec
  have hb := B.bytes
  have hr := B.returns
  have hw9 := atoms_spec (ws := (wd yX2_clear cX2_clear 1 none)) B.pre
  have hg := gw_hts hw9
  have hown : s.vm.findClass RX2 = some m.cls := findClass_of_methodNamed B.named
  have hlocks := B.notSynchronized
  subst hsz
  have hD := hD0.self (sz := s.heap.size)
  generalize hAe : va_A [(h0, .inr (2, [.ref b1, .ref b2, .ref b3, .ref b4, .ref b5, .int 0])), (b1, .inl (cI, 4096, .inl zI)), (b2, .inl (cI, 4096, .inl zI)), (b3, .inl (cI, 4096, .inl zI)), (b4, .inl (cI, 4096, .inl zI)), (b5, .inl (cZ, 4096, .inl zI))] s.heap.size = A at hD ⊢
  have hA : ∀ q : Nat, s.heap.size ≤ q → A q := fun q h => by rw [← hAe]; exact Or.inr h
  have hS : va_S A s.heap s.heap [] := va_S.rf
  have hl := lv_entry ([.ref h0]) (n := 1) (Nat.le_of_ble_eq_true rfl)
  rw [lg_entry_eq]
  generalize (lg_sl ([.ref h0]) ++ List.replicate (1 - (lg_sl ([.ref h0])).length) Slot.unset).toArray = ls at hl ⊢
  have hl : lv_has ls 1 [(0, .ref h0)] := hl
  refine lv_aload_n hx hb dX2_clear_0 rfl (lv_at hl 0 rfl) ?_
  refine lv_iconst (v := 0) hx hb dX2_clear_1 (by decide) ?_
  refine va_put (D := (dC, dI)) (ci := 2) (v := .int 0) (ty := .int) (C := RX2) (T := TX2) (N := 6) hx hb hg i_X2 tyX2 tyX2_ok nmX2 hown hK hP hD hS 0 rfl rfl 5 (by decide) (hg _ k_52) (fun _ h9 => h9) rfl (by decide +kernel) rfl rfl (Nat.le_of_ble_eq_true rfl) dX2_clear_2 (fun H locs hP hD hS => ?_)
  have hP : va_P (dC, dI) vwCl [(h0, .inr (2, [.ref b1, .ref b2, .ref b3, .ref b4, .ref b5, .int 0])), (b1, .inl (cI, 4096, .inl zI)), (b2, .inl (cI, 4096, .inl zI)), (b3, .inl (cI, 4096, .inl zI)), (b4, .inl (cI, 4096, .inl zI)), (b5, .inl (cZ, 4096, .inl zI))] H := hP
  have hD : va_D A [(h0, .inr (2, [.ref b1, .ref b2, .ref b3, .ref b4, .ref b5, .int 0])), (b1, .inl (cI, 4096, .inl zI)), (b2, .inl (cI, 4096, .inl zI)), (b3, .inl (cI, 4096, .inl zI)), (b4, .inl (cI, 4096, .inl zI)), (b5, .inl (cZ, 4096, .inl zI))] := hD
  refine lv_aload_n hx hb dX2_clear_5 rfl (lv_at hl 0 rfl) ?_
  refine lv_iconst (v := 0) hx hb dX2_clear_6 (by decide) ?_
  refine lv_iconst (v := (-1)) hx hb dX2_clear_7 (by decide) ?_
  refine lv_iconst (v := (-1)) hx hb dX2_clear_8 (by decide) ?_
  have hPc := hP.sub (ws' := [(h0, .inr (2, [.ref b1, .ref b2, .ref b3, .ref b4, .ref b5, .int 0])), (b1, .inl (cI, 4096, .inl zI)), (b2, .inl (cI, 4096, .inl zI)), (b3, .inl (cI, 4096, .inl zI)), (b4, .inl (cI, 4096, .inl zI)), (b5, .inl (cZ, 4096, .inl zI))]) [0, 1, 2, 3, 4, 5] rfl
  have hDc := hD.sub (ws' := [(h0, .inr (2, [.ref b1, .ref b2, .ref b3, .ref b4, .ref b5, .int 0])), (b1, .inl (cI, 4096, .inl zI)), (b2, .inl (cI, 4096, .inl zI)), (b3, .inl (cI, 4096, .inl zI)), (b4, .inl (cI, 4096, .inl zI)), (b5, .inl (cZ, 4096, .inl zI))]) [0, 1, 2, 3, 4, 5] (by decide) rfl
  have hFc := va_free (wc := [(h0, .inr (2, [.ref b1, .ref b2, .ref b3, .ref b4, .ref b5, .int 0])), (b1, .inl (cI, 4096, .inl zI)), (b2, .inl (cI, 4096, .inl zI)), (b3, .inl (cI, 4096, .inl zI)), (b4, .inl (cI, 4096, .inl zI)), (b5, .inl (cZ, 4096, .inl zI))]) hD hS hA [0, 1, 2, 3, 4, 5] rfl
  refine va_calli (va_runV (As := [.int 0, .int (-1), .int (-1)]) (rest := []) ⟨hx, hb, hml, hown, hg⟩ (c_X2_make l dC dI cI cZ cL h0 b1 b2 b3 b4 b5 (Array.size _)) (cwV 3 hg (gw_V k_147 k_148 k_149 k_76 g_yX2_make) rfl rfl rfl (by decide +kernel) ⟨(Nat.le_of_ble_eq_true rfl), (Nat.le_of_ble_eq_true rfl)⟩) ⟨hp_bl, va_recv hK hPc (ci := 2) (q0 := 0) rfl rfl, fun U hU hW => hp_ok hU hW hPc hK hDc⟩ rfl rfl hl.1 rfl (lv_room (Nat.le_of_ble_eq_true rfl)) dX2_clear_9 ⟨(Nat.le_of_ble_eq_true rfl), (Nat.le_of_ble_eq_true rfl)⟩) hS (fun q _ h => hFc q h) hFc (fun r9 u t H locs ht hvm hw hB hz1 hk1 hS => ?_)
  obtain ⟨hP1, hD1⟩ := hB
  rw [ht] at hP1
  obtain ⟨hP, hD⟩ := va_join (wr := []) (w1 := []) hP hD [0, 1, 2, 3, 4, 5] [] rfl rfl (by decide) (by decide) hk1 hFc hP1 hD1
  have hP : va_P (dC, dI) vwCl [] H := hP
  have hD : va_D A [] := hD
  refine W.widen (k := 0) (n := 0) (Nat.le_of_ble_eq_true rfl) (Nat.le_of_ble_eq_true rfl) ?_
  obtain rfl : r9 = 0 := hw
  refine lv_pop hx hb dX2_clear_12 rfl ?_
  have hP9 := hP.sub (ws' := []) [] rfl
  have hD9 := hD.sub (ws' := []) [] (by decide) rfl
  refine W.widen (k := 0) (n := 0) (Nat.le_of_ble_eq_true rfl) (Nat.le_of_ble_eq_true rfl) ?_
  exact W.vret hx hb hr (fun t ht hW => ⟨⟨(), rfl, trivial, by rw [ht]; exact hP9, hD9⟩, hS.F ht⟩) hS.2.2 dX2_clear_13

set_option maxHeartbeats 4000000 in
set_option maxRecDepth 100000 in
/-- Context.clear() -/
theorem c_X0_clear (l : Launch) (dC : Nat → ClassId) (dI : Nat → Nat → Nat) (cI cZ cL : ClassId) (h0 : Nat) (sz : Nat) (n0 c1 c2 : Nat) : Met l yX0_clear (wd yX0_clear cX0_clear 1 none) ({ frames := 0, cells := 0, slots := 0, locals := 0 }) (va_Pc [.ref h0] (hp dC dI cI cZ cL sz [(h0, .inr (0, [.ref n0, .ref c1, .ref c2, .int 0]))])) (va_Qv (fun (_ : Unit) => True) (fun (_ : Unit) t => va_P (dC, dI) vwCl [] t.heap ∧ va_D (va_A [(h0, .inr (0, [.ref n0, .ref c1, .ref c2, .int 0]))] sz) []) (va_A [(h0, .inr (0, [.ref n0, .ref c1, .ref c2, .int 0]))] sz)) 0 0 (va_A [(h0, .inr (0, [.ref n0, .ref c1, .ref c2, .int 0]))] sz) := by
  refine Met.ofW (cc := cX0_clear) (maxL := 1) (ret := none) (by decide) rfl ?_
  intro p e s m args below meth c s₁ B hml hv
  obtain ⟨rfl, hsz, hP, hK, hD0⟩ := hv
  have hx := B.exec
  have hb := B.bytes
  have hr := B.returns
  have hw9 := atoms_spec (ws := (wd yX0_clear cX0_clear 1 none)) B.pre
  have hg := gw_hts hw9
  have hown : s.vm.findClass RX0 = some m.cls := findClass_of_methodNamed B.named
  have hlocks := B.notSynchronized
  subst hsz
  have hD := hD0.self (sz := s.heap.size)
  generalize hAe : va_A [(h0, .inr (0, [.ref n0, .ref c1, .ref c2, .int 0]))] s.heap.size = A at hD ⊢
  have hA : ∀ q : Nat, s.heap.size ≤ q → A q := fun q h => by rw [← hAe]; exact Or.inr h
  have hS : va_S A s.heap s.heap [] := va_S.rf
  have hl := lv_entry ([.ref h0]) (n := 1) (Nat.le_of_ble_eq_true rfl)
  rw [lg_entry_eq]
  generalize (lg_sl ([.ref h0]) ++ List.replicate (1 - (lg_sl ([.ref h0])).length) Slot.unset).toArray = ls at hl ⊢
  have hl : lv_has ls 1 [(0, .ref h0)] := hl
  refine lv_aload_n hx hb dX0_clear_0 rfl (lv_at hl 0 rfl) ?_
  refine lv_iconst (v := 0) hx hb dX0_clear_1 (by decide) ?_
  refine va_put (D := (dC, dI)) (ci := 0) (v := .int 0) (ty := .int) (C := RX0) (T := TX0) (N := 4) hx hb hg i_X0 tyX0 tyX0_ok nmX0 hown hK hP hD hS 0 rfl rfl 3 (by decide) (hg _ k_14) (fun _ h9 => h9) rfl (by decide +kernel) rfl rfl (Nat.le_of_ble_eq_true rfl) dX0_clear_2 (fun H locs hP hD hS => ?_)
  have hP : va_P (dC, dI) vwCl [(h0, .inr (0, [.ref n0, .ref c1, .ref c2, .int 0]))] H := hP
  have hD : va_D A [(h0, .inr (0, [.ref n0, .ref c1, .ref c2, .int 0]))] := hD
  have hP9 := hP.sub (ws' := []) [] rfl
  have hD9 := hD.sub (ws' := []) [] (by decide) rfl
  refine W.widen (k := 0) (n := 0) (Nat.le_of_ble_eq_true rfl) (Nat.le_of_ble_eq_true rfl) ?_
  exact W.vret hx hb hr (fun t ht hW => ⟨⟨(), rfl, trivial, by rw [ht]; exact hP9, hD9⟩, hS.F ht⟩) hS.2.2 dX0_clear_5

set_option maxHeartbeats 4000000 in
set_option maxRecDepth 100000 in
/-- Judge.clear() -/
theorem c_X1_clear (l : Launch) (dC : Nat → ClassId) (dI : Nat → Nat → Nat) (cI cZ cL : ClassId) (h0 x0 : Nat) (sz : Nat) (n0 c1 c2 j2 j3 j4 j5 : Nat) : Met l yX1_clear (wd yX1_clear cX1_clear 1 none) ({ frames := 1, cells := 0, slots := 0, locals := 20 }) (va_Pc [.ref h0] (hp dC dI cI cZ cL sz [(h0, .inr (1, [.ref n0, .ref x0, .ref j2, .ref j3, .ref j4, .ref j5, .int 0, .int 0, .int (-1), .int 0, .int 0])), (x0, .inr (0, [.ref n0, .ref c1, .ref c2, .int 0]))])) (va_Qv (fun (_ : Unit) => True) (fun (_ : Unit) t => va_P (dC, dI) vwCl [] t.heap ∧ va_D (va_A [(h0, .inr (1, [.ref n0, .ref x0, .ref j2, .ref j3, .ref j4, .ref j5, .int 0, .int 0, .int (-1), .int 0, .int 0])), (x0, .inr (0, [.ref n0, .ref c1, .ref c2, .int 0]))] sz) []) (va_A [(h0, .inr (1, [.ref n0, .ref x0, .ref j2, .ref j3, .ref j4, .ref j5, .int 0, .int 0, .int (-1), .int 0, .int 0])), (x0, .inr (0, [.ref n0, .ref c1, .ref c2, .int 0]))] sz)) 0 0 (va_A [(h0, .inr (1, [.ref n0, .ref x0, .ref j2, .ref j3, .ref j4, .ref j5, .int 0, .int 0, .int (-1), .int 0, .int 0])), (x0, .inr (0, [.ref n0, .ref c1, .ref c2, .int 0]))] sz) := by
  refine Met.ofW (cc := cX1_clear) (maxL := 1) (ret := none) (by decide) rfl ?_
  intro p e s m args below meth c s₁ B hml hv
  obtain ⟨rfl, hsz, hP, hK, hD0⟩ := hv
  have hx := B.exec
  have hb := B.bytes
  have hr := B.returns
  have hw9 := atoms_spec (ws := (wd yX1_clear cX1_clear 1 none)) B.pre
  have hg := gw_hts hw9
  have hown : s.vm.findClass RX1 = some m.cls := findClass_of_methodNamed B.named
  have hlocks := B.notSynchronized
  subst hsz
  have hD := hD0.self (sz := s.heap.size)
  generalize hAe : va_A [(h0, .inr (1, [.ref n0, .ref x0, .ref j2, .ref j3, .ref j4, .ref j5, .int 0, .int 0, .int (-1), .int 0, .int 0])), (x0, .inr (0, [.ref n0, .ref c1, .ref c2, .int 0]))] s.heap.size = A at hD ⊢
  have hA : ∀ q : Nat, s.heap.size ≤ q → A q := fun q h => by rw [← hAe]; exact Or.inr h
  have hS : va_S A s.heap s.heap [] := va_S.rf
  have hl := lv_entry ([.ref h0]) (n := 1) (Nat.le_of_ble_eq_true rfl)
  rw [lg_entry_eq]
  generalize (lg_sl ([.ref h0]) ++ List.replicate (1 - (lg_sl ([.ref h0])).length) Slot.unset).toArray = ls at hl ⊢
  have hl : lv_has ls 1 [(0, .ref h0)] := hl
  refine lv_aload_n hx hb dX1_clear_0 rfl (lv_at hl 0 rfl) ?_
  refine va_get (D := (dC, dI)) (ci := 1) (v := .ref x0) (C := RX1) (T := TX1) (N := 11) hx hb hg i_X1 hown hK hP 0 rfl rfl 1 (by decide) (hg _ k_38) (fun _ h9 => h9) rfl dX1_clear_1 ?_
  have hPc := hP.sub (ws' := [(x0, .inr (0, [.ref n0, .ref c1, .ref c2, .int 0]))]) [1] rfl
  have hDc := hD.sub (ws' := [(x0, .inr (0, [.ref n0, .ref c1, .ref c2, .int 0]))]) [1] (by decide) rfl
  have hFc := va_free (wc := [(x0, .inr (0, [.ref n0, .ref c1, .ref c2, .int 0]))]) hD hS hA [1] rfl
  refine va_callv (va_runV (As := []) (rest := []) ⟨hx, hb, hml, hown, hg⟩ (c_X0_clear l dC dI cI cZ cL x0 (Array.size _) n0 c1 c2) (cwV 0 hg (gw_V k_150 k_151 k_152 k_35 g_yX0_clear) rfl rfl rfl (by decide +kernel) ⟨(Nat.le_of_ble_eq_true rfl), (Nat.le_of_ble_eq_true rfl)⟩) ⟨hp_bl, va_recv hK hPc (ci := 0) (q0 := 0) rfl rfl, fun U hU hW => hp_ok hU hW hPc hK hDc⟩ rfl rfl hl.1 rfl (lv_room (Nat.le_of_ble_eq_true rfl)) dX1_clear_4 ⟨(Nat.le_of_ble_eq_true rfl), (Nat.le_of_ble_eq_true rfl)⟩) hS (fun q _ h => hFc q h) hFc (fun u t H locs ht hvm hw hB hz1 hk1 hS => ?_)
  obtain ⟨hP1, hD1⟩ := hB
  rw [ht] at hP1
  obtain ⟨hP, hD⟩ := va_join (wr := [(h0, .inr (1, [.ref n0, .ref x0, .ref j2, .ref j3, .ref j4, .ref j5, .int 0, .int 0, .int (-1), .int 0, .int 0]))]) (w1 := []) hP hD [1] [0] rfl rfl (by decide) (by decide) hk1 hFc hP1 hD1
  have hP : va_P (dC, dI) vwCl [(h0, .inr (1, [.ref n0, .ref x0, .ref j2, .ref j3, .ref j4, .ref j5, .int 0, .int 0, .int (-1), .int 0, .int 0]))] H := hP
  have hD : va_D A [(h0, .inr (1, [.ref n0, .ref x0, .ref j2, .ref j3, .ref j4, .ref j5, .int 0, .int 0, .int (-1), .int 0, .int 0]))] := hD
  refine W.widen (k := 0) (n := 0) (Nat.le_of_ble_eq_true rfl) (Nat.le_of_ble_eq_true rfl) ?_
  refine lv_aload_n hx hb dX1_clear_7 rfl (lv_at hl 0 rfl) ?_
  refine lv_iconst (v := 0) hx hb dX1_clear_8 (by decide) ?_
  refine va_put (D := (dC, dI)) (ci := 1) (v := .int 0) (ty := .int) (C := RX1) (T := TX1) (N := 11) hx hb hg i_X1 tyX1 tyX1_ok nmX1 hown hK hP hD hS 0 rfl rfl 6 (by decide) (hg _ k_27) (fun _ h9 => h9) rfl (by decide +kernel) rfl rfl (Nat.le_of_ble_eq_true rfl) dX1_clear_9 (fun H locs hP hD hS => ?_)
  have hP : va_P (dC, dI) vwCl [(h0, .inr (1, [.ref n0, .ref x0, .ref j2, .ref j3, .ref j4, .ref j5, .int 0, .int 0, .int (-1), .int 0, .int 0]))] H := hP
  have hD : va_D A [(h0, .inr (1, [.ref n0, .ref x0, .ref j2, .ref j3, .ref j4, .ref j5, .int 0, .int 0, .int (-1), .int 0, .int 0]))] := hD
  refine lv_aload_n hx hb dX1_clear_12 rfl (lv_at hl 0 rfl) ?_
  refine lv_iconst (v := 0) hx hb dX1_clear_13 (by decide) ?_
  refine va_put (D := (dC, dI)) (ci := 1) (v := .int 0) (ty := .boolean) (C := RX1) (T := TX1) (N := 11) hx hb hg i_X1 tyX1 tyX1_ok nmX1 hown hK hP hD hS 0 rfl rfl 7 (by decide) (hg _ k_28) (fun _ h9 => h9) rfl (by decide +kernel) rfl rfl (Nat.le_of_ble_eq_true rfl) dX1_clear_14 (fun H locs hP hD hS => ?_)
  have hP : va_P (dC, dI) vwCl [(h0, .inr (1, [.ref n0, .ref x0, .ref j2, .ref j3, .ref j4, .ref j5, .int 0, .int 0, .int (-1), .int 0, .int 0]))] H := hP
  have hD : va_D A [(h0, .inr (1, [.ref n0, .ref x0, .ref j2, .ref j3, .ref j4, .ref j5, .int 0, .int 0, .int (-1), .int 0, .int 0]))] := hD
  refine lv_aload_n hx hb dX1_clear_17 rfl (lv_at hl 0 rfl) ?_
  refine lv_iconst (v := (-1)) hx hb dX1_clear_18 (by decide) ?_
  refine va_put (D := (dC, dI)) (ci := 1) (v := .int (-1)) (ty := .int) (C := RX1) (T := TX1) (N := 11) hx hb hg i_X1 tyX1 tyX1_ok nmX1 hown hK hP hD hS 0 rfl rfl 8 (by decide) (hg _ k_29) (fun _ h9 => h9) rfl (by decide +kernel) rfl rfl (Nat.le_of_ble_eq_true rfl) dX1_clear_19 (fun H locs hP hD hS => ?_)
  have hP : va_P (dC, dI) vwCl [(h0, .inr (1, [.ref n0, .ref x0, .ref j2, .ref j3, .ref j4, .ref j5, .int 0, .int 0, .int (-1), .int 0, .int 0]))] H := hP
  have hD : va_D A [(h0, .inr (1, [.ref n0, .ref x0, .ref j2, .ref j3, .ref j4, .ref j5, .int 0, .int 0, .int (-1), .int 0, .int 0]))] := hD
  refine lv_aload_n hx hb dX1_clear_22 rfl (lv_at hl 0 rfl) ?_
  refine lv_iconst (v := 0) hx hb dX1_clear_23 (by decide) ?_
  refine va_put (D := (dC, dI)) (ci := 1) (v := .int 0) (ty := .int) (C := RX1) (T := TX1) (N := 11) hx hb hg i_X1 tyX1 tyX1_ok nmX1 hown hK hP hD hS 0 rfl rfl 9 (by decide) (hg _ k_30) (fun _ h9 => h9) rfl (by decide +kernel) rfl rfl (Nat.le_of_ble_eq_true rfl) dX1_clear_24 (fun H locs hP hD hS => ?_)
  have hP : va_P (dC, dI) vwCl [(h0, .inr (1, [.ref n0, .ref x0, .ref j2, .ref j3, .ref j4, .ref j5, .int 0, .int 0, .int (-1), .int 0, .int 0]))] H := hP
  have hD : va_D A [(h0, .inr (1, [.ref n0, .ref x0, .ref j2, .ref j3, .ref j4, .ref j5, .int 0, .int 0, .int (-1), .int 0, .int 0]))] := hD
  refine lv_aload_n hx hb dX1_clear_27 rfl (lv_at hl 0 rfl) ?_
  refine lv_iconst (v := 0) hx hb dX1_clear_28 (by decide) ?_
  refine va_put (D := (dC, dI)) (ci := 1) (v := .int 0) (ty := .int) (C := RX1) (T := TX1) (N := 11) hx hb hg i_X1 tyX1 tyX1_ok nmX1 hown hK hP hD hS 0 rfl rfl 10 (by decide) (hg _ k_31) (fun _ h9 => h9) rfl (by decide +kernel) rfl rfl (Nat.le_of_ble_eq_true rfl) dX1_clear_29 (fun H locs hP hD hS => ?_)
  have hP : va_P (dC, dI) vwCl [(h0, .inr (1, [.ref n0, .ref x0, .ref j2, .ref j3, .ref j4, .ref j5, .int 0, .int 0, .int (-1), .int 0, .int 0]))] H := hP
  have hD : va_D A [(h0, .inr (1, [.ref n0, .ref x0, .ref j2, .ref j3, .ref j4, .ref j5, .int 0, .int 0, .int (-1), .int 0, .int 0]))] := hD
  have hP9 := hP.sub (ws' := []) [] rfl
  have hD9 := hD.sub (ws' := []) [] (by decide) rfl
  refine W.widen (k := 0) (n := 0) (Nat.le_of_ble_eq_true rfl) (Nat.le_of_ble_eq_true rfl) ?_
  exact W.vret hx hb hr (fun t ht hW => ⟨⟨(), rfl, trivial, by rw [ht]; exact hP9, hD9⟩, hS.F ht⟩) hS.2.2 dX1_clear_32

set_option maxHeartbeats 4000000 in
set_option maxRecDepth 100000 in
/-- Printer.clear() -/
theorem c_X3_clear (l : Launch) (dC : Nat → ClassId) (dI : Nat → Nat → Nat) (cI cZ cL : ClassId) (h0 : Nat) (sz : Nat) (n0 p1 p2 : Nat) : Met l yX3_clear (wd yX3_clear cX3_clear 1 none) ({ frames := 0, cells := 0, slots := 0, locals := 0 }) (va_Pc [.ref h0] (hp dC dI cI cZ cL sz [(h0, .inr (3, [.ref n0, .ref p1, .ref p2, .int 0, .int (-1), .int 0]))])) (va_Qv (fun (_ : Unit) => True) (fun (_ : Unit) t => va_P (dC, dI) vwCl [] t.heap ∧ va_D (va_A [(h0, .inr (3, [.ref n0, .ref p1, .ref p2, .int 0, .int (-1), .int 0]))] sz) []) (va_A [(h0, .inr (3, [.ref n0, .ref p1, .ref p2, .int 0, .int (-1), .int 0]))] sz)) 0 0 (va_A [(h0, .inr (3, [.ref n0, .ref p1, .ref p2, .int 0, .int (-1), .int 0]))] sz) := by
  refine Met.ofW (cc := cX3_clear) (maxL := 1) (ret := none) (by decide) rfl ?_
  intro p e s m args below meth c s₁ B hml hv
  obtain ⟨rfl, hsz, hP, hK, hD0⟩ := hv
  have hx := B.exec
  have hb := B.bytes
  have hr := B.returns
  have hw9 := atoms_spec (ws := (wd yX3_clear cX3_clear 1 none)) B.pre
  have hg := gw_hts hw9
  have hown : s.vm.findClass RX3 = some m.cls := findClass_of_methodNamed B.named
  have hlocks := B.notSynchronized
  subst hsz
  have hD := hD0.self (sz := s.heap.size)
  generalize hAe : va_A [(h0, .inr (3, [.ref n0, .ref p1, .ref p2, .int 0, .int (-1), .int 0]))] s.heap.size = A at hD ⊢
  have hA : ∀ q : Nat, s.heap.size ≤ q → A q := fun q h => by rw [← hAe]; exact Or.inr h
  have hS : va_S A s.heap s.heap [] := va_S.rf
  have hl := lv_entry ([.ref h0]) (n := 1) (Nat.le_of_ble_eq_true rfl)
  rw [lg_entry_eq]
  generalize (lg_sl ([.ref h0]) ++ List.replicate (1 - (lg_sl ([.ref h0])).length) Slot.unset).toArray = ls at hl ⊢
  have hl : lv_has ls 1 [(0, .ref h0)] := hl
  refine lv_aload_n hx hb dX3_clear_0 rfl (lv_at hl 0 rfl) ?_
  refine lv_iconst (v := (-1)) hx hb dX3_clear_1 (by decide) ?_
  refine va_put (D := (dC, dI)) (ci := 3) (v := .int (-1)) (ty := .int) (C := RX3) (T := TX3) (N := 6) hx hb hg i_X3 tyX3 tyX3_ok nmX3 hown hK hP hD hS 0 rfl rfl 4 (by decide) (hg _ k_57) (fun _ h9 => h9) rfl (by decide +kernel) rfl rfl (Nat.le_of_ble_eq_true rfl) dX3_clear_2 (fun H locs hP hD hS => ?_)
  have hP : va_P (dC, dI) vwCl [(h0, .inr (3, [.ref n0, .ref p1, .ref p2, .int 0, .int (-1), .int 0]))] H := hP
  have hD : va_D A [(h0, .inr (3, [.ref n0, .ref p1, .ref p2, .int 0, .int (-1), .int 0]))] := hD
  have hP9 := hP.sub (ws' := []) [] rfl
  have hD9 := hD.sub (ws' := []) [] (by decide) rfl
  refine W.widen (k := 0) (n := 0) (Nat.le_of_ble_eq_true rfl) (Nat.le_of_ble_eq_true rfl) ?_
  exact W.vret hx hb hr (fun t ht hW => ⟨⟨(), rfl, trivial, by rw [ht]; exact hP9, hD9⟩, hS.F ht⟩) hS.2.2 dX3_clear_5

set_option maxHeartbeats 4000000 in
set_option maxRecDepth 100000 in
/-- startText(), nothing fed -/
theorem c_X6_startText (l : Launch) (dC : Nat → ClassId) (dI : Nat → Nat → Nat) (cI cZ cL : ClassId) (h0 a1 n0 b1 b2 b3 b4 b5 r0 a2 j0 x0 p0 : Nat) (sz : Nat) (a3 j2 j3 j4 j5 c1 c2 p1 p2 : Nat) : Met l yX6_startText (wd yX6_startText cX6_startText 1 none) ({ frames := 2, cells := 0, slots := 0, locals := 44 }) (va_Pc [.ref h0] (hp dC dI cI cZ cL sz [(h0, .inr (6, [.ref a1, .int 0, .int (-1), .ref n0, .ref r0, .ref j0, .ref p0])), (a1, .inl (cI, 60, .inl zI)), (n0, .inr (2, [.ref b1, .ref b2, .ref b3, .ref b4, .ref b5, .int 0])), (b1, .inl (cI, 4096, .inl zI)), (b2, .inl (cI, 4096, .inl zI)), (b3, .inl (cI, 4096, .inl zI)), (b4, .inl (cI, 4096, .inl zI)), (b5, .inl (cZ, 4096, .inl zI)), (r0, .inr (4, [.ref n0, .ref a1, .ref a2, .ref a3, .int 0, .int 0, .int 0, .int 0, .int (-1)])), (a2, .inl (cI, 26, .inl zI)), (j0, .inr (1, [.ref n0, .ref x0, .ref j2, .ref j3, .ref j4, .ref j5, .int 0, .int 0, .int (-1), .int 0, .int 0])), (x0, .inr (0, [.ref n0, .ref c1, .ref c2, .int 0])), (p0, .inr (3, [.ref n0, .ref p1, .ref p2, .int 0, .int (-1), .int 0]))])) (va_Qv (fun (_ : Unit) => True) (fun (_ : Unit) t => va_P (dC, dI) vwCl [(h0, .inr (6, [.ref a1, .int 0, .int (-1), .ref n0, .ref r0, .ref j0, .ref p0])), (r0, .inr (4, [.ref n0, .ref a1, .ref a2, .ref a3, .int 0, .int 0, .int 0, .int 0, .int (-1)]))] t.heap ∧ va_D (va_A [(h0, .inr (6, [.ref a1, .int 0, .int (-1), .ref n0, .ref r0, .ref j0, .ref p0])), (a1, .inl (cI, 60, .inl zI)), (n0, .inr (2, [.ref b1, .ref b2, .ref b3, .ref b4, .ref b5, .int 0])), (b1, .inl (cI, 4096, .inl zI)), (b2, .inl (cI, 4096, .inl zI)), (b3, .inl (cI, 4096, .inl zI)), (b4, .inl (cI, 4096, .inl zI)), (b5, .inl (cZ, 4096, .inl zI)), (r0, .inr (4, [.ref n0, .ref a1, .ref a2, .ref a3, .int 0, .int 0, .int 0, .int 0, .int (-1)])), (a2, .inl (cI, 26, .inl zI)), (j0, .inr (1, [.ref n0, .ref x0, .ref j2, .ref j3, .ref j4, .ref j5, .int 0, .int 0, .int (-1), .int 0, .int 0])), (x0, .inr (0, [.ref n0, .ref c1, .ref c2, .int 0])), (p0, .inr (3, [.ref n0, .ref p1, .ref p2, .int 0, .int (-1), .int 0]))] sz) [(h0, .inr (6, [.ref a1, .int 0, .int (-1), .ref n0, .ref r0, .ref j0, .ref p0])), (r0, .inr (4, [.ref n0, .ref a1, .ref a2, .ref a3, .int 0, .int 0, .int 0, .int 0, .int (-1)]))]) (va_A [(h0, .inr (6, [.ref a1, .int 0, .int (-1), .ref n0, .ref r0, .ref j0, .ref p0])), (a1, .inl (cI, 60, .inl zI)), (n0, .inr (2, [.ref b1, .ref b2, .ref b3, .ref b4, .ref b5, .int 0])), (b1, .inl (cI, 4096, .inl zI)), (b2, .inl (cI, 4096, .inl zI)), (b3, .inl (cI, 4096, .inl zI)), (b4, .inl (cI, 4096, .inl zI)), (b5, .inl (cZ, 4096, .inl zI)), (r0, .inr (4, [.ref n0, .ref a1, .ref a2, .ref a3, .int 0, .int 0, .int 0, .int 0, .int (-1)])), (a2, .inl (cI, 26, .inl zI)), (j0, .inr (1, [.ref n0, .ref x0, .ref j2, .ref j3, .ref j4, .ref j5, .int 0, .int 0, .int (-1), .int 0, .int 0])), (x0, .inr (0, [.ref n0, .ref c1, .ref c2, .int 0])), (p0, .inr (3, [.ref n0, .ref p1, .ref p2, .int 0, .int (-1), .int 0]))] sz)) 0 0 (va_A [(h0, .inr (6, [.ref a1, .int 0, .int (-1), .ref n0, .ref r0, .ref j0, .ref p0])), (a1, .inl (cI, 60, .inl zI)), (n0, .inr (2, [.ref b1, .ref b2, .ref b3, .ref b4, .ref b5, .int 0])), (b1, .inl (cI, 4096, .inl zI)), (b2, .inl (cI, 4096, .inl zI)), (b3, .inl (cI, 4096, .inl zI)), (b4, .inl (cI, 4096, .inl zI)), (b5, .inl (cZ, 4096, .inl zI)), (r0, .inr (4, [.ref n0, .ref a1, .ref a2, .ref a3, .int 0, .int 0, .int 0, .int 0, .int (-1)])), (a2, .inl (cI, 26, .inl zI)), (j0, .inr (1, [.ref n0, .ref x0, .ref j2, .ref j3, .ref j4, .ref j5, .int 0, .int 0, .int (-1), .int 0, .int 0])), (x0, .inr (0, [.ref n0, .ref c1, .ref c2, .int 0])), (p0, .inr (3, [.ref n0, .ref p1, .ref p2, .int 0, .int (-1), .int 0]))] sz) := by
  refine Met.ofW (cc := cX6_startText) (maxL := 1) (ret := none) (by decide) rfl ?_
  intro p e s m args below meth c s₁ B hml hv
  obtain ⟨rfl, hsz, hP, hK, hD0⟩ := hv
  have hx := B.exec
  have hb := B.bytes
  have hr := B.returns
  have hw9 := atoms_spec (ws := (wd yX6_startText cX6_startText 1 none)) B.pre
  have hg := gw_hts hw9
  have hown : s.vm.findClass RX6 = some m.cls := findClass_of_methodNamed B.named
  have hlocks := B.notSynchronized
  subst hsz
  have hD := hD0.self (sz := s.heap.size)
  generalize hAe : va_A [(h0, .inr (6, [.ref a1, .int 0, .int (-1), .ref n0, .ref r0, .ref j0, .ref p0])), (a1, .inl (cI, 60, .inl zI)), (n0, .inr (2, [.ref b1, .ref b2, .ref b3, .ref b4, .ref b5, .int 0])), (b1, .inl (cI, 4096, .inl zI)), (b2, .inl (cI, 4096, .inl zI)), (b3, .inl (cI, 4096, .inl zI)), (b4, .inl (cI, 4096, .inl zI)), (b5, .inl (cZ, 4096, .inl zI)), (r0, .inr (4, [.ref n0, .ref a1, .ref a2, .ref a3, .int 0, .int 0, .int 0, .int 0, .int (-1)])), (a2, .inl (cI, 26, .inl zI)), (j0, .inr (1, [.ref n0, .ref x0, .ref j2, .ref j3, .ref j4, .ref j5, .int 0, .int 0, .int (-1), .int 0, .int 0])), (x0, .inr (0, [.ref n0, .ref c1, .ref c2, .int 0])), (p0, .inr (3, [.ref n0, .ref p1, .ref p2, .int 0, .int (-1), .int 0]))] s.heap.size = A at hD ⊢
  have hA : ∀ q : Nat, s.heap.size ≤ q → A q := fun q h => by rw [← hAe]; exact Or.inr h
  have hS : va_S A s.heap s.heap [] := va_S.rf
  have hl := lv_entry ([.ref h0]) (n := 1) (Nat.le_of_ble_eq_true rfl)
  rw [lg_entry_eq]
  generalize (lg_sl ([.ref h0]) ++ List.replicate (1 - (lg_sl ([.ref h0])).length) Slot.unset).toArray = ls at hl ⊢
  have hl : lv_has ls 1 [(0, .ref h0)] := hl
  refine lv_aload_n hx hb dX6_startText_0 rfl (lv_at hl 0 rfl) ?_
  refine va_get (D := (dC, dI)) (ci := 6) (v := .ref n0) (C := RX6) (T := TX6) (N := 7) hx hb hg i_X6 hown hK hP 0 rfl rfl 3 (by decide) (hg _ k_78) (fun _ h9 => h9) rfl dX6_startText_1 ?_
  have hPc := hP.sub (ws' := [(n0, .inr (2, [.ref b1, .ref b2, .ref b3, .ref b4, .ref b5, .int 0])), (b1, .inl (cI, 4096, .inl zI)), (b2, .inl (cI, 4096, .inl zI)), (b3, .inl (cI, 4096, .inl zI)), (b4, .inl (cI, 4096, .inl zI)), (b5, .inl (cZ, 4096, .inl zI))]) [2, 3, 4, 5, 6, 7] rfl
  have hDc := hD.sub (ws' := [(n0, .inr (2, [.ref b1, .ref b2, .ref b3, .ref b4, .ref b5, .int 0])), (b1, .inl (cI, 4096, .inl zI)), (b2, .inl (cI, 4096, .inl zI)), (b3, .inl (cI, 4096, .inl zI)), (b4, .inl (cI, 4096, .inl zI)), (b5, .inl (cZ, 4096, .inl zI))]) [2, 3, 4, 5, 6, 7] (by decide) rfl
  have hFc := va_free (wc := [(n0, .inr (2, [.ref b1, .ref b2, .ref b3, .ref b4, .ref b5, .int 0])), (b1, .inl (cI, 4096, .inl zI)), (b2, .inl (cI, 4096, .inl zI)), (b3, .inl (cI, 4096, .inl zI)), (b4, .inl (cI, 4096, .inl zI)), (b5, .inl (cZ, 4096, .inl zI))]) hD hS hA [2, 3, 4, 5, 6, 7] rfl
  refine va_callv (va_runV (As := []) (rest := []) ⟨hx, hb, hml, hown, hg⟩ (c_X2_clear l dC dI cI cZ cL n0 b1 b2 b3 b4 b5 (Array.size _)) (cwV 0 hg (gw_V k_153 k_154 k_155 k_76 g_yX2_clear) rfl rfl rfl (by decide +kernel) ⟨(Nat.le_of_ble_eq_true rfl), (Nat.le_of_ble_eq_true rfl)⟩) ⟨hp_bl, va_recv hK hPc (ci := 2) (q0 := 0) rfl rfl, fun U hU hW => hp_ok hU hW hPc hK hDc⟩ rfl rfl hl.1 rfl (lv_room (Nat.le_of_ble_eq_true rfl)) dX6_startText_4 ⟨(Nat.le_of_ble_eq_true rfl), (Nat.le_of_ble_eq_true rfl)⟩) hS (fun q _ h => hFc q h) hFc (fun u t H locs ht hvm hw hB hz1 hk1 hS => ?_)
  obtain ⟨hP1, hD1⟩ := hB
  rw [ht] at hP1
  obtain ⟨hP, hD⟩ := va_join (wr := [(h0, .inr (6, [.ref a1, .int 0, .int (-1), .ref n0, .ref r0, .ref j0, .ref p0])), (a1, .inl (cI, 60, .inl zI)), (r0, .inr (4, [.ref n0, .ref a1, .ref a2, .ref a3, .int 0, .int 0, .int 0, .int 0, .int (-1)])), (a2, .inl (cI, 26, .inl zI)), (j0, .inr (1, [.ref n0, .ref x0, .ref j2, .ref j3, .ref j4, .ref j5, .int 0, .int 0, .int (-1), .int 0, .int 0])), (x0, .inr (0, [.ref n0, .ref c1, .ref c2, .int 0])), (p0, .inr (3, [.ref n0, .ref p1, .ref p2, .int 0, .int (-1), .int 0]))]) (w1 := []) hP hD [2, 3, 4, 5, 6, 7] [0, 1, 8, 9, 10, 11, 12] rfl rfl (by decide) (by decide) hk1 hFc hP1 hD1
  have hP : va_P (dC, dI) vwCl [(h0, .inr (6, [.ref a1, .int 0, .int (-1), .ref n0, .ref r0, .ref j0, .ref p0])), (a1, .inl (cI, 60, .inl zI)), (r0, .inr (4, [.ref n0, .ref a1, .ref a2, .ref a3, .int 0, .int 0, .int 0, .int 0, .int (-1)])), (a2, .inl (cI, 26, .inl zI)), (j0, .inr (1, [.ref n0, .ref x0, .ref j2, .ref j3, .ref j4, .ref j5, .int 0, .int 0, .int (-1), .int 0, .int 0])), (x0, .inr (0, [.ref n0, .ref c1, .ref c2, .int 0])), (p0, .inr (3, [.ref n0, .ref p1, .ref p2, .int 0, .int (-1), .int 0]))] H := hP
  have hD : va_D A [(h0, .inr (6, [.ref a1, .int 0, .int (-1), .ref n0, .ref r0, .ref j0, .ref p0])), (a1, .inl (cI, 60, .inl zI)), (r0, .inr (4, [.ref n0, .ref a1, .ref a2, .ref a3, .int 0, .int 0, .int 0, .int 0, .int (-1)])), (a2, .inl (cI, 26, .inl zI)), (j0, .inr (1, [.ref n0, .ref x0, .ref j2, .ref j3, .ref j4, .ref j5, .int 0, .int 0, .int (-1), .int 0, .int 0])), (x0, .inr (0, [.ref n0, .ref c1, .ref c2, .int 0])), (p0, .inr (3, [.ref n0, .ref p1, .ref p2, .int 0, .int (-1), .int 0]))] := hD
  refine W.widen (k := 0) (n := 0) (Nat.le_of_ble_eq_true rfl) (Nat.le_of_ble_eq_true rfl) ?_
  refine lv_aload_n hx hb dX6_startText_7 rfl (lv_at hl 0 rfl) ?_
  refine va_get (D := (dC, dI)) (ci := 6) (v := .ref j0) (C := RX6) (T := TX6) (N := 7) hx hb hg i_X6 hown hK hP 0 rfl rfl 5 (by decide) (hg _ k_90) (fun _ h9 => h9) rfl dX6_startText_8 ?_
  have hPc := hP.sub (ws' := [(j0, .inr (1, [.ref n0, .ref x0, .ref j2, .ref j3, .ref j4, .ref j5, .int 0, .int 0, .int (-1), .int 0, .int 0])), (x0, .inr (0, [.ref n0, .ref c1, .ref c2, .int 0]))]) [4, 5] rfl
  have hDc := hD.sub (ws' := [(j0, .inr (1, [.ref n0, .ref x0, .ref j2, .ref j3, .ref j4, .ref j5, .int 0, .int 0, .int (-1), .int 0, .int 0])), (x0, .inr (0, [.ref n0, .ref c1, .ref c2, .int 0]))]) [4, 5] (by decide) rfl
  have hFc := va_free (wc := [(j0, .inr (1, [.ref n0, .ref x0, .ref j2, .ref j3, .ref j4, .ref j5, .int 0, .int 0, .int (-1), .int 0, .int 0])), (x0, .inr (0, [.ref n0, .ref c1, .ref c2, .int 0]))]) hD hS hA [4, 5] rfl
  refine va_callv (va_runV (As := []) (rest := []) ⟨hx, hb, hml, hown, hg⟩ (c_X1_clear l dC dI cI cZ cL j0 x0 (Array.size _) n0 c1 c2 j2 j3 j4 j5) (cwV 0 hg (gw_V k_156 k_157 k_158 k_87 g_yX1_clear) rfl rfl rfl (by decide +kernel) ⟨(Nat.le_of_ble_eq_true rfl), (Nat.le_of_ble_eq_true rfl)⟩) ⟨hp_bl, va_recv hK hPc (ci := 1) (q0 := 0) rfl rfl, fun U hU hW => hp_ok hU hW hPc hK hDc⟩ rfl rfl hl.1 rfl (lv_room (Nat.le_of_ble_eq_true rfl)) dX6_startText_11 ⟨(Nat.le_of_ble_eq_true rfl), (Nat.le_of_ble_eq_true rfl)⟩) hS (fun q _ h => hFc q h) hFc (fun u t H locs ht hvm hw hB hz1 hk1 hS => ?_)
  obtain ⟨hP1, hD1⟩ := hB
  rw [ht] at hP1
  obtain ⟨hP, hD⟩ := va_join (wr := [(h0, .inr (6, [.ref a1, .int 0, .int (-1), .ref n0, .ref r0, .ref j0, .ref p0])), (a1, .inl (cI, 60, .inl zI)), (r0, .inr (4, [.ref n0, .ref a1, .ref a2, .ref a3, .int 0, .int 0, .int 0, .int 0, .int (-1)])), (a2, .inl (cI, 26, .inl zI)), (p0, .inr (3, [.ref n0, .ref p1, .ref p2, .int 0, .int (-1), .int 0]))]) (w1 := []) hP hD [4, 5] [0, 1, 2, 3, 6] rfl rfl (by decide) (by decide) hk1 hFc hP1 hD1
  have hP : va_P (dC, dI) vwCl [(h0, .inr (6, [.ref a1, .int 0, .int (-1), .ref n0, .ref r0, .ref j0, .ref p0])), (a1, .inl (cI, 60, .inl zI)), (r0, .inr (4, [.ref n0, .ref a1, .ref a2, .ref a3, .int 0, .int 0, .int 0, .int 0, .int (-1)])), (a2, .inl (cI, 26, .inl zI)), (p0, .inr (3, [.ref n0, .ref p1, .ref p2, .int 0, .int (-1), .int 0]))] H := hP
  have hD : va_D A [(h0, .inr (6, [.ref a1, .int 0, .int (-1), .ref n0, .ref r0, .ref j0, .ref p0])), (a1, .inl (cI, 60, .inl zI)), (r0, .inr (4, [.ref n0, .ref a1, .ref a2, .ref a3, .int 0, .int 0, .int 0, .int 0, .int (-1)])), (a2, .inl (cI, 26, .inl zI)), (p0, .inr (3, [.ref n0, .ref p1, .ref p2, .int 0, .int (-1), .int 0]))] := hD
  refine W.widen (k := 0) (n := 0) (Nat.le_of_ble_eq_true rfl) (Nat.le_of_ble_eq_true rfl) ?_
  refine lv_aload_n hx hb dX6_startText_14 rfl (lv_at hl 0 rfl) ?_
  refine va_get (D := (dC, dI)) (ci := 6) (v := .ref p0) (C := RX6) (T := TX6) (N := 7) hx hb hg i_X6 hown hK hP 0 rfl rfl 6 (by decide) (hg _ k_96) (fun _ h9 => h9) rfl dX6_startText_15 ?_
  have hPc := hP.sub (ws' := [(p0, .inr (3, [.ref n0, .ref p1, .ref p2, .int 0, .int (-1), .int 0]))]) [4] rfl
  have hDc := hD.sub (ws' := [(p0, .inr (3, [.ref n0, .ref p1, .ref p2, .int 0, .int (-1), .int 0]))]) [4] (by decide) rfl
  have hFc := va_free (wc := [(p0, .inr (3, [.ref n0, .ref p1, .ref p2, .int 0, .int (-1), .int 0]))]) hD hS hA [4] rfl
  refine va_callv (va_runV (As := []) (rest := []) ⟨hx, hb, hml, hown, hg⟩ (c_X3_clear l dC dI cI cZ cL p0 (Array.size _) n0 p1 p2) (cwV 0 hg (gw_V k_159 k_160 k_161 k_93 g_yX3_clear) rfl rfl rfl (by decide +kernel) ⟨(Nat.le_of_ble_eq_true rfl), (Nat.le_of_ble_eq_true rfl)⟩) ⟨hp_bl, va_recv hK hPc (ci := 3) (q0 := 0) rfl rfl, fun U hU hW => hp_ok hU hW hPc hK hDc⟩ rfl rfl hl.1 rfl (lv_room (Nat.le_of_ble_eq_true rfl)) dX6_startText_18 ⟨(Nat.le_of_ble_eq_true rfl), (Nat.le_of_ble_eq_true rfl)⟩) hS (fun q _ h => hFc q h) hFc (fun u t H locs ht hvm hw hB hz1 hk1 hS => ?_)
  obtain ⟨hP1, hD1⟩ := hB
  rw [ht] at hP1
  obtain ⟨hP, hD⟩ := va_join (wr := [(h0, .inr (6, [.ref a1, .int 0, .int (-1), .ref n0, .ref r0, .ref j0, .ref p0])), (a1, .inl (cI, 60, .inl zI)), (r0, .inr (4, [.ref n0, .ref a1, .ref a2, .ref a3, .int 0, .int 0, .int 0, .int 0, .int (-1)])), (a2, .inl (cI, 26, .inl zI))]) (w1 := []) hP hD [4] [0, 1, 2, 3] rfl rfl (by decide) (by decide) hk1 hFc hP1 hD1
  have hP : va_P (dC, dI) vwCl [(h0, .inr (6, [.ref a1, .int 0, .int (-1), .ref n0, .ref r0, .ref j0, .ref p0])), (a1, .inl (cI, 60, .inl zI)), (r0, .inr (4, [.ref n0, .ref a1, .ref a2, .ref a3, .int 0, .int 0, .int 0, .int 0, .int (-1)])), (a2, .inl (cI, 26, .inl zI))] H := hP
  have hD : va_D A [(h0, .inr (6, [.ref a1, .int 0, .int (-1), .ref n0, .ref r0, .ref j0, .ref p0])), (a1, .inl (cI, 60, .inl zI)), (r0, .inr (4, [.ref n0, .ref a1, .ref a2, .ref a3, .int 0, .int 0, .int 0, .int 0, .int (-1)])), (a2, .inl (cI, 26, .inl zI))] := hD
  refine W.widen (k := 0) (n := 0) (Nat.le_of_ble_eq_true rfl) (Nat.le_of_ble_eq_true rfl) ?_
  refine lv_aload_n hx hb dX6_startText_21 rfl (lv_at hl 0 rfl) ?_
  refine va_get (D := (dC, dI)) (ci := 6) (v := .ref r0) (C := RX6) (T := TX6) (N := 7) hx hb hg i_X6 hown hK hP 0 rfl rfl 4 (by decide) (hg _ k_84) (fun _ h9 => h9) rfl dX6_startText_22 ?_
  refine lv_aload_n hx hb dX6_startText_25 rfl (lv_at hl 0 rfl) ?_
  refine va_get (D := (dC, dI)) (ci := 6) (v := .int 0) (C := RX6) (T := TX6) (N := 7) hx hb hg i_X6 hown hK hP 0 rfl rfl 1 (by decide) (hg _ k_72) (fun _ h9 => h9) rfl dX6_startText_26 ?_
  have hPc := hP.sub (ws' := [(r0, .inr (4, [.ref n0, .ref a1, .ref a2, .ref a3, .int 0, .int 0, .int 0, .int 0, .int (-1)])), (a1, .inl (cI, 60, .inl zI)), (a2, .inl (cI, 26, .inl zI))]) [2, 1, 3] rfl
  have hDc := hD.sub (ws' := [(r0, .inr (4, [.ref n0, .ref a1, .ref a2, .ref a3, .int 0, .int 0, .int 0, .int 0, .int (-1)])), (a1, .inl (cI, 60, .inl zI)), (a2, .inl (cI, 26, .inl zI))]) [2, 1, 3] (by decide) rfl
  have hFc := va_free (wc := [(r0, .inr (4, [.ref n0, .ref a1, .ref a2, .ref a3, .int 0, .int 0, .int 0, .int 0, .int (-1)])), (a1, .inl (cI, 60, .inl zI)), (a2, .inl (cI, 26, .inl zI))]) hD hS hA [2, 1, 3] rfl
  refine va_callv (va_runV (As := [.int 0]) (rest := []) ⟨hx, hb, hml, hown, hg⟩ (c_X4_start l dC dI cI cZ cL r0 a1 a2 (Array.size _) n0 a3) (cwV 1 hg (gw_V k_162 k_163 k_164 k_81 g_yX4_start) rfl rfl rfl (by decide +kernel) ⟨(Nat.le_of_ble_eq_true rfl), (Nat.le_of_ble_eq_true rfl)⟩) ⟨hp_bl, va_recv hK hPc (ci := 4) (q0 := 0) rfl rfl, fun U hU hW => hp_ok hU hW hPc hK hDc⟩ rfl rfl hl.1 rfl (lv_room (Nat.le_of_ble_eq_true rfl)) dX6_startText_29 ⟨(Nat.le_of_ble_eq_true rfl), (Nat.le_of_ble_eq_true rfl)⟩) hS (fun q _ h => hFc q h) hFc (fun u t H locs ht hvm hw hB hz1 hk1 hS => ?_)
  obtain ⟨hP1, hD1⟩ := hB
  rw [ht] at hP1
  obtain ⟨hP, hD⟩ := va_join (wr := [(h0, .inr (6, [.ref a1, .int 0, .int (-1), .ref n0, .ref r0, .ref j0, .ref p0]))]) (w1 := [(r0, .inr (4, [.ref n0, .ref a1, .ref a2, .ref a3, .int 0, .int 0, .int 0, .int 0, .int (-1)]))]) hP hD [2, 1, 3] [0] rfl rfl (by decide) (by decide) hk1 hFc hP1 hD1
  have hP : va_P (dC, dI) vwCl [(h0, .inr (6, [.ref a1, .int 0, .int (-1), .ref n0, .ref r0, .ref j0, .ref p0])), (r0, .inr (4, [.ref n0, .ref a1, .ref a2, .ref a3, .int 0, .int 0, .int 0, .int 0, .int (-1)]))] H := hP
  have hD : va_D A [(h0, .inr (6, [.ref a1, .int 0, .int (-1), .ref n0, .ref r0, .ref j0, .ref p0])), (r0, .inr (4, [.ref n0, .ref a1, .ref a2, .ref a3, .int 0, .int 0, .int 0, .int 0, .int (-1)]))] := hD
  refine W.widen (k := 0) (n := 0) (Nat.le_of_ble_eq_true rfl) (Nat.le_of_ble_eq_true rfl) ?_
  refine lv_aload_n hx hb dX6_startText_32 rfl (lv_at hl 0 rfl) ?_
  refine lv_iconst (v := 0) hx hb dX6_startText_33 (by decide) ?_
  refine va_put (D := (dC, dI)) (ci := 6) (v := .int 0) (ty := .int) (C := RX6) (T := TX6) (N := 7) hx hb hg i_X6 tyX6 tyX6_ok nmX6 hown hK hP hD hS 0 rfl rfl 1 (by decide) (hg _ k_72) (fun _ h9 => h9) rfl (by decide +kernel) rfl rfl (Nat.le_of_ble_eq_true rfl) dX6_startText_34 (fun H locs hP hD hS => ?_)
  have hP : va_P (dC, dI) vwCl [(h0, .inr (6, [.ref a1, .int 0, .int (-1), .ref n0, .ref r0, .ref j0, .ref p0])), (r0, .inr (4, [.ref n0, .ref a1, .ref a2, .ref a3, .int 0, .int 0, .int 0, .int 0, .int (-1)]))] H := hP
  have hD : va_D A [(h0, .inr (6, [.ref a1, .int 0, .int (-1), .ref n0, .ref r0, .ref j0, .ref p0])), (r0, .inr (4, [.ref n0, .ref a1, .ref a2, .ref a3, .int 0, .int 0, .int 0, .int 0, .int (-1)]))] := hD
  have hP9 := hP.sub (ws' := [(h0, .inr (6, [.ref a1, .int 0, .int (-1), .ref n0, .ref r0, .ref j0, .ref p0])), (r0, .inr (4, [.ref n0, .ref a1, .ref a2, .ref a3, .int 0, .int 0, .int 0, .int 0, .int (-1)]))]) [0, 1] rfl
  have hD9 := hD.sub (ws' := [(h0, .inr (6, [.ref a1, .int 0, .int (-1), .ref n0, .ref r0, .ref j0, .ref p0])), (r0, .inr (4, [.ref n0, .ref a1, .ref a2, .ref a3, .int 0, .int 0, .int 0, .int 0, .int (-1)]))]) [0, 1] (by decide) rfl
  refine W.widen (k := 0) (n := 0) (Nat.le_of_ble_eq_true rfl) (Nat.le_of_ble_eq_true rfl) ?_
  exact W.vret hx hb hr (fun t ht hW => ⟨⟨(), rfl, trivial, by rw [ht]; exact hP9, hD9⟩, hS.F ht⟩) hS.2.2 dX6_startText_37

set_option maxHeartbeats 4000000 in
set_option maxRecDepth 100000 in
/-- peek() at the end of an empty text -/
theorem c_X4_peek (l : Launch) (dC : Nat → ClassId) (dI : Nat → Nat → Nat) (cI cZ cL : ClassId) (h0 : Nat) (sz : Nat) (n0 a1 a2 a3 : Nat) : Met l yX4_peek (wd yX4_peek cX4_peek 1 (some .int)) ({ frames := 0, cells := 0, slots := 0, locals := 0 }) (va_Pc [.ref h0] (hp dC dI cI cZ cL sz [(h0, .inr (4, [.ref n0, .ref a1, .ref a2, .ref a3, .int 0, .int 0, .int 0, .int 0, .int (-1)]))])) (va_Qi (fun (r : Int32) (_ : Unit) => r = -1) (fun (_ : Unit) t => va_P (dC, dI) vwCl [(h0, .inr (4, [.ref n0, .ref a1, .ref a2, .ref a3, .int 0, .int 0, .int 0, .int 0, .int (-1)]))] t.heap ∧ va_D (va_A [(h0, .inr (4, [.ref n0, .ref a1, .ref a2, .ref a3, .int 0, .int 0, .int 0, .int 0, .int (-1)]))] sz) [(h0, .inr (4, [.ref n0, .ref a1, .ref a2, .ref a3, .int 0, .int 0, .int 0, .int 0, .int (-1)]))]) (va_A [(h0, .inr (4, [.ref n0, .ref a1, .ref a2, .ref a3, .int 0, .int 0, .int 0, .int 0, .int (-1)]))] sz)) 0 0 (va_A [(h0, .inr (4, [.ref n0, .ref a1, .ref a2, .ref a3, .int 0, .int 0, .int 0, .int 0, .int (-1)]))] sz) := by
  refine Met.ofW (cc := cX4_peek) (maxL := 1) (ret := (some .int)) (by decide) rfl ?_
  intro p e s m args below meth c s₁ B hml hv
  obtain ⟨rfl, hsz, hP, hK, hD0⟩ := hv
  have hx := B.exec
  have hb := B.bytes
  have hr := B.returns
  have hw9 := atoms_spec (ws := (wd yX4_peek cX4_peek 1 (some .int))) B.pre
  have hg := gw_hts hw9
  have hown : s.vm.findClass RX4 = some m.cls := findClass_of_methodNamed B.named
  have hlocks := B.notSynchronized
  subst hsz
  have hD := hD0.self (sz := s.heap.size)
  generalize hAe : va_A [(h0, .inr (4, [.ref n0, .ref a1, .ref a2, .ref a3, .int 0, .int 0, .int 0, .int 0, .int (-1)]))] s.heap.size = A at hD ⊢
  have hA : ∀ q : Nat, s.heap.size ≤ q → A q := fun q h => by rw [← hAe]; exact Or.inr h
  have hS : va_S A s.heap s.heap [] := va_S.rf
  have hl := lv_entry ([.ref h0]) (n := 1) (Nat.le_of_ble_eq_true rfl)
  rw [lg_entry_eq]
  generalize (lg_sl ([.ref h0]) ++ List.replicate (1 - (lg_sl ([.ref h0])).length) Slot.unset).toArray = ls at hl ⊢
  have hl : lv_has ls 1 [(0, .ref h0)] := hl
  refine lv_aload_n hx hb dX4_peek_0 rfl (lv_at hl 0 rfl) ?_
  refine va_get (D := (dC, dI)) (ci := 4) (v := .int 0) (C := RX4) (T := TX4) (N := 9) hx hb hg i_X4 hown hK hP 0 rfl rfl 6 (by decide) (hg _ k_65) (fun _ h9 => h9) rfl dX4_peek_1 ?_
  refine lv_aload_n hx hb dX4_peek_4 rfl (lv_at hl 0 rfl) ?_
  refine va_get (D := (dC, dI)) (ci := 4) (v := .int 0) (C := RX4) (T := TX4) (N := 9) hx hb hg i_X4 hown hK hP 0 rfl rfl 5 (by decide) (hg _ k_64) (fun _ h9 => h9) rfl dX4_peek_5 ?_
  refine lv_icmp_ge (tgt := 38) hx hb dX4_peek_8 (by decide) (fun _ => ?_) (fun c9 => absurd (by decide) c9)
  refine lv_aload_n hx hb dX4_peek_38 rfl (lv_at hl 0 rfl) ?_
  refine va_get (D := (dC, dI)) (ci := 4) (v := .int 0) (C := RX4) (T := TX4) (N := 9) hx hb hg i_X4 hown hK hP 0 rfl rfl 6 (by decide) (hg _ k_65) (fun _ h9 => h9) rfl dX4_peek_39 ?_
  refine lv_aload_n hx hb dX4_peek_42 rfl (lv_at hl 0 rfl) ?_
  refine va_get (D := (dC, dI)) (ci := 4) (v := .int 0) (C := RX4) (T := TX4) (N := 9) hx hb hg i_X4 hown hK hP 0 rfl rfl 5 (by decide) (hg _ k_64) (fun _ h9 => h9) rfl dX4_peek_43 ?_
  refine lv_icmp_ge (tgt := 61) hx hb dX4_peek_46 (by decide) (fun _ => ?_) (fun c9 => absurd (by decide) c9)
  refine lv_iconst (v := (-1)) hx hb dX4_peek_61 (by decide) ?_
  have hP9 := hP.sub (ws' := [(h0, .inr (4, [.ref n0, .ref a1, .ref a2, .ref a3, .int 0, .int 0, .int 0, .int 0, .int (-1)]))]) [0] rfl
  have hD9 := hD.sub (ws' := [(h0, .inr (4, [.ref n0, .ref a1, .ref a2, .ref a3, .int 0, .int 0, .int 0, .int 0, .int (-1)]))]) [0] (by decide) rfl
  refine W.widen (k := 0) (n := 0) (Nat.le_of_ble_eq_true rfl) (Nat.le_of_ble_eq_true rfl) ?_
  exact W.iret (v := (-1)) hx hb hr (fun t ht hW => ⟨⟨(-1), (), rfl, rfl, by rw [ht]; exact hP9, hD9⟩, hS.F ht⟩) hS.2.2 dX4_peek_62

set_option maxHeartbeats 4000000 in
set_option maxRecDepth 100000 in
/-- refuse() at 0 -/
theorem c_X4_refuse (l : Launch) (dC : Nat → ClassId) (dI : Nat → Nat → Nat) (cI cZ cL : ClassId) (h0 : Nat) (sz : Nat) (n0 a1 a2 a3 : Nat) : Met l yX4_refuse (wd yX4_refuse cX4_refuse 1 (some .int)) ({ frames := 0, cells := 0, slots := 0, locals := 0 }) (va_Pc [.ref h0] (hp dC dI cI cZ cL sz [(h0, .inr (4, [.ref n0, .ref a1, .ref a2, .ref a3, .int 0, .int 0, .int 0, .int 0, .int (-1)]))])) (va_Qi (fun (r : Int32) (_ : Unit) => r = -1) (fun (_ : Unit) t => va_P (dC, dI) vwCl [(h0, .inr (4, [.ref n0, .ref a1, .ref a2, .ref a3, .int 0, .int 0, .int 0, .int 0, .int 0]))] t.heap ∧ va_D (va_A [(h0, .inr (4, [.ref n0, .ref a1, .ref a2, .ref a3, .int 0, .int 0, .int 0, .int 0, .int (-1)]))] sz) [(h0, .inr (4, [.ref n0, .ref a1, .ref a2, .ref a3, .int 0, .int 0, .int 0, .int 0, .int 0]))]) (va_A [(h0, .inr (4, [.ref n0, .ref a1, .ref a2, .ref a3, .int 0, .int 0, .int 0, .int 0, .int (-1)]))] sz)) 0 0 (va_A [(h0, .inr (4, [.ref n0, .ref a1, .ref a2, .ref a3, .int 0, .int 0, .int 0, .int 0, .int (-1)]))] sz) := by
  refine Met.ofW (cc := cX4_refuse) (maxL := 1) (ret := (some .int)) (by decide) rfl ?_
  intro p e s m args below meth c s₁ B hml hv
  obtain ⟨rfl, hsz, hP, hK, hD0⟩ := hv
  have hx := B.exec
  have hb := B.bytes
  have hr := B.returns
  have hw9 := atoms_spec (ws := (wd yX4_refuse cX4_refuse 1 (some .int))) B.pre
  have hg := gw_hts hw9
  have hown : s.vm.findClass RX4 = some m.cls := findClass_of_methodNamed B.named
  have hlocks := B.notSynchronized
  subst hsz
  have hD := hD0.self (sz := s.heap.size)
  generalize hAe : va_A [(h0, .inr (4, [.ref n0, .ref a1, .ref a2, .ref a3, .int 0, .int 0, .int 0, .int 0, .int (-1)]))] s.heap.size = A at hD ⊢
  have hA : ∀ q : Nat, s.heap.size ≤ q → A q := fun q h => by rw [← hAe]; exact Or.inr h
  have hS : va_S A s.heap s.heap [] := va_S.rf
  have hl := lv_entry ([.ref h0]) (n := 1) (Nat.le_of_ble_eq_true rfl)
  rw [lg_entry_eq]
  generalize (lg_sl ([.ref h0]) ++ List.replicate (1 - (lg_sl ([.ref h0])).length) Slot.unset).toArray = ls at hl ⊢
  have hl : lv_has ls 1 [(0, .ref h0)] := hl
  refine lv_aload_n hx hb dX4_refuse_0 rfl (lv_at hl 0 rfl) ?_
  refine lv_aload_n hx hb dX4_refuse_1 rfl (lv_at hl 0 rfl) ?_
  refine va_get (D := (dC, dI)) (ci := 4) (v := .int 0) (C := RX4) (T := TX4) (N := 9) hx hb hg i_X4 hown hK hP 0 rfl rfl 6 (by decide) (hg _ k_65) (fun _ h9 => h9) rfl dX4_refuse_2 ?_
  refine va_put (D := (dC, dI)) (ci := 4) (v := .int 0) (ty := .int) (C := RX4) (T := TX4) (N := 9) hx hb hg i_X4 tyX4 tyX4_ok nmX4 hown hK hP hD hS 0 rfl rfl 8 (by decide) (hg _ k_67) (fun _ h9 => h9) rfl (by decide +kernel) rfl rfl (Nat.le_of_ble_eq_true rfl) dX4_refuse_5 (fun H locs hP hD hS => ?_)
  have hP : va_P (dC, dI) vwCl [(h0, .inr (4, [.ref n0, .ref a1, .ref a2, .ref a3, .int 0, .int 0, .int 0, .int 0, .int 0]))] H := hP
  have hD : va_D A [(h0, .inr (4, [.ref n0, .ref a1, .ref a2, .ref a3, .int 0, .int 0, .int 0, .int 0, .int 0]))] := hD
  refine lv_iconst (v := (-1)) hx hb dX4_refuse_8 (by decide) ?_
  have hP9 := hP.sub (ws' := [(h0, .inr (4, [.ref n0, .ref a1, .ref a2, .ref a3, .int 0, .int 0, .int 0, .int 0, .int 0]))]) [0] rfl
  have hD9 := hD.sub (ws' := [(h0, .inr (4, [.ref n0, .ref a1, .ref a2, .ref a3, .int 0, .int 0, .int 0, .int 0, .int 0]))]) [0] (by decide) rfl
  refine W.widen (k := 0) (n := 0) (Nat.le_of_ble_eq_true rfl) (Nat.le_of_ble_eq_true rfl) ?_
  exact W.iret (v := (-1)) hx hb hr (fun t ht hW => ⟨⟨(-1), (), rfl, rfl, by rw [ht]; exact hP9, hD9⟩, hS.F ht⟩) hS.2.2 dX4_refuse_9

set_option maxHeartbeats 4000000 in
set_option maxRecDepth 100000 in
/-- isLetter(END) -/
theorem c_X4_isLetter (l : Launch) (dC : Nat → ClassId) (dI : Nat → Nat → Nat) (cI cZ cL : ClassId) (sz : Nat)  : Met l yX4_isLetter (wd yX4_isLetter cX4_isLetter 1 (some .boolean)) ({ frames := 0, cells := 0, slots := 0, locals := 0 }) (va_Pc [.int (-1)] (hp dC dI cI cZ cL sz [])) (va_Qi (fun (r : Int32) (_ : Unit) => r = 0) (fun (_ : Unit) t => va_P (dC, dI) vwCl [] t.heap ∧ va_D (va_A [] sz) []) (va_A [] sz)) 0 0 (va_A [] sz) := by
  refine Met.ofW (cc := cX4_isLetter) (maxL := 1) (ret := (some .boolean)) (by decide) rfl ?_
  intro p e s m args below meth c s₁ B hml hv
  obtain ⟨rfl, hsz, hP, hK, hD0⟩ := hv
  have hx := B.exec
  have hb := B.bytes
  have hr := B.returns
  have hw9 := atoms_spec (ws := (wd yX4_isLetter cX4_isLetter 1 (some .boolean))) B.pre
  have hg := gw_hts hw9
  have hown : s.vm.findClass RX4 = some m.cls := findClass_of_methodNamed B.named
  have hlocks := B.notSynchronized
  subst hsz
  have hD := hD0.self (sz := s.heap.size)
  generalize hAe : va_A [] s.heap.size = A at hD ⊢
  have hA : ∀ q : Nat, s.heap.size ≤ q → A q := fun q h => by rw [← hAe]; exact Or.inr h
  have hS : va_S A s.heap s.heap [] := va_S.rf
  have hl := lv_entry ([.int (-1)]) (n := 1) (Nat.le_of_ble_eq_true rfl)
  rw [lg_entry_eq]
  generalize (lg_sl ([.int (-1)]) ++ List.replicate (1 - (lg_sl ([.int (-1)])).length) Slot.unset).toArray = ls at hl ⊢
  have hl : lv_has ls 1 [(0, .int (-1))] := hl
  refine lv_iload_n hx hb dX4_isLetter_0 rfl (lv_at hl 0 rfl) ?_
  refine lv_bipush (v := 97) hx hb dX4_isLetter_1 (by decide) ?_
  refine lv_icmp_lt (tgt := 16) hx hb dX4_isLetter_3 (by decide) (fun _ => ?_) (fun c9 => absurd (by decide) c9)
  refine lv_iconst (v := 0) hx hb dX4_isLetter_16 (by decide) ?_
  have hP9 := hP.sub (ws' := []) [] rfl
  have hD9 := hD.sub (ws' := []) [] (by decide) rfl
  refine W.widen (k := 0) (n := 0) (Nat.le_of_ble_eq_true rfl) (Nat.le_of_ble_eq_true rfl) ?_
  exact W.zret (ty := .boolean) (v := 0) hx hb hr (by decide) (fun t ht hW => ⟨⟨0, (), rfl, rfl, by rw [ht]; exact hP9, hD9⟩, hS.F ht⟩) hS.2.2 dX4_isLetter_17

set_option maxHeartbeats 4000000 in
set_option maxRecDepth 100000 in
/-- termAtom(0) of an empty text -/
theorem c_X4_termAtom (l : Launch) (dC : Nat → ClassId) (dI : Nat → Nat → Nat) (cI cZ cL : ClassId) (h0 : Nat) (sz : Nat) (n0 a1 a2 a3 : Nat) : Met l yX4_termAtom (wd yX4_termAtom cX4_termAtom 3 (some .int)) ({ frames := 1, cells := 0, slots := 0, locals := 20 }) (va_Pc [.ref h0, .int 0] (hp dC dI cI cZ cL sz [(h0, .inr (4, [.ref n0, .ref a1, .ref a2, .ref a3, .int 0, .int 0, .int 0, .int 0, .int (-1)]))])) (va_Qi (fun (r : Int32) (_ : Unit) => r = -1) (fun (_ : Unit) t => va_P (dC, dI) vwCl [(h0, .inr (4, [.ref n0, .ref a1, .ref a2, .ref a3, .int 0, .int 0, .int 0, .int 0, .int 0]))] t.heap ∧ va_D (va_A [(h0, .inr (4, [.ref n0, .ref a1, .ref a2, .ref a3, .int 0, .int 0, .int 0, .int 0, .int (-1)]))] sz) [(h0, .inr (4, [.ref n0, .ref a1, .ref a2, .ref a3, .int 0, .int 0, .int 0, .int 0, .int 0]))]) (va_A [(h0, .inr (4, [.ref n0, .ref a1, .ref a2, .ref a3, .int 0, .int 0, .int 0, .int 0, .int (-1)]))] sz)) 0 0 (va_A [(h0, .inr (4, [.ref n0, .ref a1, .ref a2, .ref a3, .int 0, .int 0, .int 0, .int 0, .int (-1)]))] sz) := by
  refine Met.ofW (cc := cX4_termAtom) (maxL := 3) (ret := (some .int)) (by decide) rfl ?_
  intro p e s m args below meth c s₁ B hml hv
  obtain ⟨rfl, hsz, hP, hK, hD0⟩ := hv
  have hx := B.exec
  have hb := B.bytes
  have hr := B.returns
  have hw9 := atoms_spec (ws := (wd yX4_termAtom cX4_termAtom 3 (some .int))) B.pre
  have hg := gw_hts hw9
  have hown : s.vm.findClass RX4 = some m.cls := findClass_of_methodNamed B.named
  have hlocks := B.notSynchronized
  subst hsz
  have hD := hD0.self (sz := s.heap.size)
  generalize hAe : va_A [(h0, .inr (4, [.ref n0, .ref a1, .ref a2, .ref a3, .int 0, .int 0, .int 0, .int 0, .int (-1)]))] s.heap.size = A at hD ⊢
  have hA : ∀ q : Nat, s.heap.size ≤ q → A q := fun q h => by rw [← hAe]; exact Or.inr h
  have hS : va_S A s.heap s.heap [] := va_S.rf
  have hl := lv_entry ([.ref h0, .int 0]) (n := 3) (Nat.le_of_ble_eq_true rfl)
  rw [lg_entry_eq]
  generalize (lg_sl ([.ref h0, .int 0]) ++ List.replicate (3 - (lg_sl ([.ref h0, .int 0])).length) Slot.unset).toArray = ls at hl ⊢
  have hl : lv_has ls 3 [(0, .ref h0), (1, .int 0)] := hl
  refine lv_aload_n hx hb dX4_termAtom_0 rfl (lv_at hl 0 rfl) ?_
  have hPc := hP.sub (ws' := [(h0, .inr (4, [.ref n0, .ref a1, .ref a2, .ref a3, .int 0, .int 0, .int 0, .int 0, .int (-1)]))]) [0] rfl
  have hDc := hD.sub (ws' := [(h0, .inr (4, [.ref n0, .ref a1, .ref a2, .ref a3, .int 0, .int 0, .int 0, .int 0, .int (-1)]))]) [0] (by decide) rfl
  have hFc := va_free (wc := [(h0, .inr (4, [.ref n0, .ref a1, .ref a2, .ref a3, .int 0, .int 0, .int 0, .int 0, .int (-1)]))]) hD hS hA [0] rfl
  refine va_calli (va_runV (As := []) (rest := []) ⟨hx, hb, hml, hown, hg⟩ (c_X4_peek l dC dI cI cZ cL h0 (Array.size _) n0 a1 a2 a3) (cwV 0 hg (gw_V k_165 k_166 k_167 k_81 g_yX4_peek) rfl rfl rfl (by decide +kernel) ⟨(Nat.le_of_ble_eq_true rfl), (Nat.le_of_ble_eq_true rfl)⟩) ⟨hp_bl, va_recv hK hPc (ci := 4) (q0 := 0) rfl rfl, fun U hU hW => hp_ok hU hW hPc hK hDc⟩ rfl rfl hl.1 rfl (lv_room (Nat.le_of_ble_eq_true rfl)) dX4_termAtom_1 ⟨(Nat.le_of_ble_eq_true rfl), (Nat.le_of_ble_eq_true rfl)⟩) hS (fun q _ h => hFc q h) hFc (fun r9 u t H locs ht hvm hw hB hz1 hk1 hS => ?_)
  obtain ⟨hP1, hD1⟩ := hB
  rw [ht] at hP1
  obtain ⟨hP, hD⟩ := va_join (wr := []) (w1 := [(h0, .inr (4, [.ref n0, .ref a1, .ref a2, .ref a3, .int 0, .int 0, .int 0, .int 0, .int (-1)]))]) hP hD [0] [] rfl rfl (by decide) (by decide) hk1 hFc hP1 hD1
  have hP : va_P (dC, dI) vwCl [(h0, .inr (4, [.ref n0, .ref a1, .ref a2, .ref a3, .int 0, .int 0, .int 0, .int 0, .int (-1)]))] H := hP
  have hD : va_D A [(h0, .inr (4, [.ref n0, .ref a1, .ref a2, .ref a3, .int 0, .int 0, .int 0, .int 0, .int (-1)]))] := hD
  refine W.widen (k := 0) (n := 0) (Nat.le_of_ble_eq_true rfl) (Nat.le_of_ble_eq_true rfl) ?_
  obtain rfl : r9 = (-1) := hw
  refine lv_istore_n (lv' := [(2, .int (-1)), (0, .ref h0), (1, .int 0)]) hx hb dX4_termAtom_4 rfl hl (by decide) rfl (fun ls hl => ?_)
  refine lv_iload_n hx hb dX4_termAtom_5 rfl (lv_at hl 2 rfl) ?_
  refine lv_bipush (v := 40) hx hb dX4_termAtom_6 (by decide) ?_
  refine lv_icmp_le (tgt := 16) hx hb dX4_termAtom_8 (by decide) (fun _ => ?_) (fun c9 => absurd (by decide) c9)
  refine lv_iload_n hx hb dX4_termAtom_16 rfl (lv_at hl 0 rfl) ?_
  refine lv_bipush (v := 49) hx hb dX4_termAtom_17 (by decide) ?_
  refine lv_icmp_ne (tgt := 44) hx hb dX4_termAtom_19 (by decide) (fun _ => ?_) (fun c9 => absurd c9 (by decide))
  refine lv_iload_n hx hb dX4_termAtom_44 rfl (lv_at hl 0 rfl) ?_
  refine lv_bipush (v := 92) hx hb dX4_termAtom_45 (by decide) ?_
  refine lv_icmp_ne (tgt := 56) hx hb dX4_termAtom_47 (by decide) (fun _ => ?_) (fun c9 => absurd c9 (by decide))
  refine lv_iload_n hx hb dX4_termAtom_56 rfl (lv_at hl 0 rfl) ?_
  refine lv_bipush (v := 40) hx hb dX4_termAtom_57 (by decide) ?_
  refine lv_icmp_ne (tgt := 68) hx hb dX4_termAtom_59 (by decide) (fun _ => ?_) (fun c9 => absurd c9 (by decide))
  refine lv_iload_n hx hb dX4_termAtom_68 rfl (lv_at hl 0 rfl) ?_
  have hPc := hP.sub (ws' := []) [] rfl
  have hDc := hD.sub (ws' := []) [] (by decide) rfl
  have hFc := va_free (wc := []) hD hS hA [] rfl
  refine va_calli (va_runS (As := [.int (-1)]) (rest := []) ⟨hx, hb, hml, hown, hg⟩ (c_X4_isLetter l dC dI cI cZ cL  (Array.size _)) (va_cwS 1 hg (gw_S k_168 k_169 k_81 g_yX4_isLetter) rfl rfl rfl (by decide +kernel) ⟨(Nat.le_of_ble_eq_true rfl), (Nat.le_of_ble_eq_true rfl)⟩) ⟨hp_bl, fun U hU hW => hp_ok hU hW hPc hK hDc⟩ rfl rfl hl.1 rfl (lv_room (Nat.le_of_ble_eq_true rfl)) dX4_termAtom_69 ⟨(Nat.le_of_ble_eq_true rfl), (Nat.le_of_ble_eq_true rfl)⟩) hS (fun q _ h => hFc q h) hFc (fun r9 u t H locs ht hvm hw hB hz1 hk1 hS => ?_)
  obtain ⟨hP1, hD1⟩ := hB
  rw [ht] at hP1
  obtain ⟨hP, hD⟩ := va_join (wr := [(h0, .inr (4, [.ref n0, .ref a1, .ref a2, .ref a3, .int 0, .int 0, .int 0, .int 0, .int (-1)]))]) (w1 := []) hP hD [] [0] rfl rfl (by decide) (by decide) hk1 hFc hP1 hD1
  have hP : va_P (dC, dI) vwCl [(h0, .inr (4, [.ref n0, .ref a1, .ref a2, .ref a3, .int 0, .int 0, .int 0, .int 0, .int (-1)]))] H := hP
  have hD : va_D A [(h0, .inr (4, [.ref n0, .ref a1, .ref a2, .ref a3, .int 0, .int 0, .int 0, .int 0, .int (-1)]))] := hD
  refine W.widen (k := 0) (n := 0) (Nat.le_of_ble_eq_true rfl) (Nat.le_of_ble_eq_true rfl) ?_
  obtain rfl : r9 = 0 := hw
  refine lv_if_eq (tgt := 87) hx hb dX4_termAtom_72 (by decide) (fun _ => ?_) (fun c9 => absurd (by decide) c9)
  refine lv_aload_n hx hb dX4_termAtom_87 rfl (lv_at hl 1 rfl) ?_
  have hPc := hP.sub (ws' := [(h0, .inr (4, [.ref n0, .ref a1, .ref a2, .ref a3, .int 0, .int 0, .int 0, .int 0, .int (-1)]))]) [0] rfl
  have hDc := hD.sub (ws' := [(h0, .inr (4, [.ref n0, .ref a1, .ref a2, .ref a3, .int 0, .int 0, .int 0, .int 0, .int (-1)]))]) [0] (by decide) rfl
  have hFc := va_free (wc := [(h0, .inr (4, [.ref n0, .ref a1, .ref a2, .ref a3, .int 0, .int 0, .int 0, .int 0, .int (-1)]))]) hD hS hA [0] rfl
  refine va_calli (va_runV (As := []) (rest := []) ⟨hx, hb, hml, hown, hg⟩ (c_X4_refuse l dC dI cI cZ cL h0 (Array.size _) n0 a1 a2 a3) (cwV 0 hg (gw_V k_170 k_171 k_172 k_81 g_yX4_refuse) rfl rfl rfl (by decide +kernel) ⟨(Nat.le_of_ble_eq_true rfl), (Nat.le_of_ble_eq_true rfl)⟩) ⟨hp_bl, va_recv hK hPc (ci := 4) (q0 := 0) rfl rfl, fun U hU hW => hp_ok hU hW hPc hK hDc⟩ rfl rfl hl.1 rfl (lv_room (Nat.le_of_ble_eq_true rfl)) dX4_termAtom_88 ⟨(Nat.le_of_ble_eq_true rfl), (Nat.le_of_ble_eq_true rfl)⟩) hS (fun q _ h => hFc q h) hFc (fun r9 u t H locs ht hvm hw hB hz1 hk1 hS => ?_)
  obtain ⟨hP1, hD1⟩ := hB
  rw [ht] at hP1
  obtain ⟨hP, hD⟩ := va_join (wr := []) (w1 := [(h0, .inr (4, [.ref n0, .ref a1, .ref a2, .ref a3, .int 0, .int 0, .int 0, .int 0, .int 0]))]) hP hD [0] [] rfl rfl (by decide) (by decide) hk1 hFc hP1 hD1
  have hP : va_P (dC, dI) vwCl [(h0, .inr (4, [.ref n0, .ref a1, .ref a2, .ref a3, .int 0, .int 0, .int 0, .int 0, .int 0]))] H := hP
  have hD : va_D A [(h0, .inr (4, [.ref n0, .ref a1, .ref a2, .ref a3, .int 0, .int 0, .int 0, .int 0, .int 0]))] := hD
  refine W.widen (k := 0) (n := 0) (Nat.le_of_ble_eq_true rfl) (Nat.le_of_ble_eq_true rfl) ?_
  obtain rfl : r9 = (-1) := hw
  have hP9 := hP.sub (ws' := [(h0, .inr (4, [.ref n0, .ref a1, .ref a2, .ref a3, .int 0, .int 0, .int 0, .int 0, .int 0]))]) [0] rfl
  have hD9 := hD.sub (ws' := [(h0, .inr (4, [.ref n0, .ref a1, .ref a2, .ref a3, .int 0, .int 0, .int 0, .int 0, .int 0]))]) [0] (by decide) rfl
  refine W.widen (k := 0) (n := 0) (Nat.le_of_ble_eq_true rfl) (Nat.le_of_ble_eq_true rfl) ?_
  exact W.iret (v := (-1)) hx hb hr (fun t ht hW => ⟨⟨(-1), (), rfl, rfl, by rw [ht]; exact hP9, hD9⟩, hS.F ht⟩) hS.2.2 dX4_termAtom_91

set_option maxHeartbeats 4000000 in
set_option maxRecDepth 100000 in
/-- term(0) of an empty text -/
theorem c_X4_term (l : Launch) (dC : Nat → ClassId) (dI : Nat → Nat → Nat) (cI cZ cL : ClassId) (h0 : Nat) (sz : Nat) (n0 a1 a2 a3 : Nat) : Met l yX4_term (wd yX4_term cX4_term 5 (some .int)) ({ frames := 2, cells := 0, slots := 0, locals := 42 }) (va_Pc [.ref h0, .int 0] (hp dC dI cI cZ cL sz [(h0, .inr (4, [.ref n0, .ref a1, .ref a2, .ref a3, .int 0, .int 0, .int 0, .int 0, .int (-1)]))])) (va_Qi (fun (r : Int32) (_ : Unit) => r = -1) (fun (_ : Unit) t => va_P (dC, dI) vwCl [(h0, .inr (4, [.ref n0, .ref a1, .ref a2, .ref a3, .int 0, .int 0, .int 0, .int 0, .int 0]))] t.heap ∧ va_D (va_A [(h0, .inr (4, [.ref n0, .ref a1, .ref a2, .ref a3, .int 0, .int 0, .int 0, .int 0, .int (-1)]))] sz) [(h0, .inr (4, [.ref n0, .ref a1, .ref a2, .ref a3, .int 0, .int 0, .int 0, .int 0, .int 0]))]) (va_A [(h0, .inr (4, [.ref n0, .ref a1, .ref a2, .ref a3, .int 0, .int 0, .int 0, .int 0, .int (-1)]))] sz)) 0 0 (va_A [(h0, .inr (4, [.ref n0, .ref a1, .ref a2, .ref a3, .int 0, .int 0, .int 0, .int 0, .int (-1)]))] sz) := by
  refine Met.ofW (cc := cX4_term) (maxL := 5) (ret := (some .int)) (by decide) rfl ?_
  intro p e s m args below meth c s₁ B hml hv
  obtain ⟨rfl, hsz, hP, hK, hD0⟩ := hv
  have hx := B.exec
  have hb := B.bytes
  have hr := B.returns
  have hw9 := atoms_spec (ws := (wd yX4_term cX4_term 5 (some .int))) B.pre
  have hg := gw_hts hw9
  have hown : s.vm.findClass RX4 = some m.cls := findClass_of_methodNamed B.named
  have hlocks := B.notSynchronized
  subst hsz
  have hD := hD0.self (sz := s.heap.size)
  generalize hAe : va_A [(h0, .inr (4, [.ref n0, .ref a1, .ref a2, .ref a3, .int 0, .int 0, .int 0, .int 0, .int (-1)]))] s.heap.size = A at hD ⊢
  have hA : ∀ q : Nat, s.heap.size ≤ q → A q := fun q h => by rw [← hAe]; exact Or.inr h
  have hS : va_S A s.heap s.heap [] := va_S.rf
  have hl := lv_entry ([.ref h0, .int 0]) (n := 5) (Nat.le_of_ble_eq_true rfl)
  rw [lg_entry_eq]
  generalize (lg_sl ([.ref h0, .int 0]) ++ List.replicate (5 - (lg_sl ([.ref h0, .int 0])).length) Slot.unset).toArray = ls at hl ⊢
  have hl : lv_has ls 5 [(0, .ref h0), (1, .int 0)] := hl
  refine lv_aload_n hx hb dX4_term_0 rfl (lv_at hl 0 rfl) ?_
  refine lv_iload_n hx hb dX4_term_1 rfl (lv_at hl 1 rfl) ?_
  have hPc := hP.sub (ws' := [(h0, .inr (4, [.ref n0, .ref a1, .ref a2, .ref a3, .int 0, .int 0, .int 0, .int 0, .int (-1)]))]) [0] rfl
  have hDc := hD.sub (ws' := [(h0, .inr (4, [.ref n0, .ref a1, .ref a2, .ref a3, .int 0, .int 0, .int 0, .int 0, .int (-1)]))]) [0] (by decide) rfl
  have hFc := va_free (wc := [(h0, .inr (4, [.ref n0, .ref a1, .ref a2, .ref a3, .int 0, .int 0, .int 0, .int 0, .int (-1)]))]) hD hS hA [0] rfl
  refine va_calli (va_runV (As := [.int 0]) (rest := []) ⟨hx, hb, hml, hown, hg⟩ (c_X4_termAtom l dC dI cI cZ cL h0 (Array.size _) n0 a1 a2 a3) (cwV 1 hg (gw_V k_173 k_174 k_175 k_81 g_yX4_termAtom) rfl rfl rfl (by decide +kernel) ⟨(Nat.le_of_ble_eq_true rfl), (Nat.le_of_ble_eq_true rfl)⟩) ⟨hp_bl, va_recv hK hPc (ci := 4) (q0 := 0) rfl rfl, fun U hU hW => hp_ok hU hW hPc hK hDc⟩ rfl rfl hl.1 rfl (lv_room (Nat.le_of_ble_eq_true rfl)) dX4_term_2 ⟨(Nat.le_of_ble_eq_true rfl), (Nat.le_of_ble_eq_true rfl)⟩) hS (fun q _ h => hFc q h) hFc (fun r9 u t H locs ht hvm hw hB hz1 hk1 hS => ?_)
  obtain ⟨hP1, hD1⟩ := hB
  rw [ht] at hP1
  obtain ⟨hP, hD⟩ := va_join (wr := []) (w1 := [(h0, .inr (4, [.ref n0, .ref a1, .ref a2, .ref a3, .int 0, .int 0, .int 0, .int 0, .int 0]))]) hP hD [0] [] rfl rfl (by decide) (by decide) hk1 hFc hP1 hD1
  have hP : va_P (dC, dI) vwCl [(h0, .inr (4, [.ref n0, .ref a1, .ref a2, .ref a3, .int 0, .int 0, .int 0, .int 0, .int 0]))] H := hP
  have hD : va_D A [(h0, .inr (4, [.ref n0, .ref a1, .ref a2, .ref a3, .int 0, .int 0, .int 0, .int 0, .int 0]))] := hD
  refine W.widen (k := 0) (n := 0) (Nat.le_of_ble_eq_true rfl) (Nat.le_of_ble_eq_true rfl) ?_
  obtain rfl : r9 = (-1) := hw
  refine lv_istore_n (lv' := [(2, .int (-1)), (0, .ref h0), (1, .int 0)]) hx hb dX4_term_5 rfl hl (by decide) rfl (fun ls hl => ?_)
  refine lv_iconst (v := 1) hx hb dX4_term_6 (by decide) ?_
  refine lv_istore_n (lv' := [(3, .int 1), (2, .int (-1)), (0, .ref h0), (1, .int 0)]) hx hb dX4_term_7 rfl hl (by decide) rfl (fun ls hl => ?_)
  refine lv_iload_n hx hb dX4_term_8 rfl (lv_at hl 0 rfl) ?_
  refine lv_bipush (v := 60) hx hb dX4_term_9 (by decide) ?_
  refine lv_icmp_gt (tgt := 65) hx hb dX4_term_11 (by decide) (fun c9 => absurd c9 (by decide)) (fun _ => ?_)
  refine lv_iload_n hx hb dX4_term_14 rfl (lv_at hl 1 rfl) ?_
  refine lv_iconst (v := (-1)) hx hb dX4_term_15 (by decide) ?_
  refine lv_icmp_eq (tgt := 65) hx hb dX4_term_16 (by decide) (fun _ => ?_) (fun c9 => absurd (by decide) c9)
  refine lv_iload_n hx hb dX4_term_65 rfl (lv_at hl 1 rfl) ?_
  have hP9 := hP.sub (ws' := [(h0, .inr (4, [.ref n0, .ref a1, .ref a2, .ref a3, .int 0, .int 0, .int 0, .int 0, .int 0]))]) [0] rfl
  have hD9 := hD.sub (ws' := [(h0, .inr (4, [.ref n0, .ref a1, .ref a2, .ref a3, .int 0, .int 0, .int 0, .int 0, .int 0]))]) [0] (by decide) rfl
  refine W.widen (k := 0) (n := 0) (Nat.le_of_ble_eq_true rfl) (Nat.le_of_ble_eq_true rfl) ?_
  exact W.iret (v := (-1)) hx hb hr (fun t ht hW => ⟨⟨(-1), (), rfl, rfl, by rw [ht]; exact hP9, hD9⟩, hS.F ht⟩) hS.2.2 dX4_term_66

set_option maxHeartbeats 4000000 in
set_option maxRecDepth 100000 in
/-- wholeTerm() of an empty text -/
theorem c_X4_wholeTerm (l : Launch) (dC : Nat → ClassId) (dI : Nat → Nat → Nat) (cI cZ cL : ClassId) (h0 : Nat) (sz : Nat) (n0 a1 a2 a3 : Nat) : Met l yX4_wholeTerm (wd yX4_wholeTerm cX4_wholeTerm 2 (some .int)) ({ frames := 3, cells := 0, slots := 0, locals := 66 }) (va_Pc [.ref h0] (hp dC dI cI cZ cL sz [(h0, .inr (4, [.ref n0, .ref a1, .ref a2, .ref a3, .int 0, .int 0, .int 0, .int 0, .int (-1)]))])) (va_Qi (fun (r : Int32) (_ : Unit) => r = -1) (fun (_ : Unit) t => va_P (dC, dI) vwCl [(h0, .inr (4, [.ref n0, .ref a1, .ref a2, .ref a3, .int 0, .int 0, .int 0, .int 0, .int 0]))] t.heap ∧ va_D (va_A [(h0, .inr (4, [.ref n0, .ref a1, .ref a2, .ref a3, .int 0, .int 0, .int 0, .int 0, .int (-1)]))] sz) [(h0, .inr (4, [.ref n0, .ref a1, .ref a2, .ref a3, .int 0, .int 0, .int 0, .int 0, .int 0]))]) (va_A [(h0, .inr (4, [.ref n0, .ref a1, .ref a2, .ref a3, .int 0, .int 0, .int 0, .int 0, .int (-1)]))] sz)) 0 0 (va_A [(h0, .inr (4, [.ref n0, .ref a1, .ref a2, .ref a3, .int 0, .int 0, .int 0, .int 0, .int (-1)]))] sz) := by
  refine Met.ofW (cc := cX4_wholeTerm) (maxL := 2) (ret := (some .int)) (by decide) rfl ?_
  intro p e s m args below meth c s₁ B hml hv
  obtain ⟨rfl, hsz, hP, hK, hD0⟩ := hv
  have hx := B.exec
  have hb := B.bytes
  have hr := B.returns
  have hw9 := atoms_spec (ws := (wd yX4_wholeTerm cX4_wholeTerm 2 (some .int))) B.pre
  have hg := gw_hts hw9
  have hown : s.vm.findClass RX4 = some m.cls := findClass_of_methodNamed B.named
  have hlocks := B.notSynchronized
  subst hsz
  have hD := hD0.self (sz := s.heap.size)
  generalize hAe : va_A [(h0, .inr (4, [.ref n0, .ref a1, .ref a2, .ref a3, .int 0, .int 0, .int 0, .int 0, .int (-1)]))] s.heap.size = A at hD ⊢
  have hA : ∀ q : Nat, s.heap.size ≤ q → A q := fun q h => by rw [← hAe]; exact Or.inr h
  have hS : va_S A s.heap s.heap [] := va_S.rf
  have hl := lv_entry ([.ref h0]) (n := 2) (Nat.le_of_ble_eq_true rfl)
  rw [lg_entry_eq]
  generalize (lg_sl ([.ref h0]) ++ List.replicate (2 - (lg_sl ([.ref h0])).length) Slot.unset).toArray = ls at hl ⊢
  have hl : lv_has ls 2 [(0, .ref h0)] := hl
  refine lv_aload_n hx hb dX4_wholeTerm_0 rfl (lv_at hl 0 rfl) ?_
  refine lv_iconst (v := 0) hx hb dX4_wholeTerm_1 (by decide) ?_
  have hPc := hP.sub (ws' := [(h0, .inr (4, [.ref n0, .ref a1, .ref a2, .ref a3, .int 0, .int 0, .int 0, .int 0, .int (-1)]))]) [0] rfl
  have hDc := hD.sub (ws' := [(h0, .inr (4, [.ref n0, .ref a1, .ref a2, .ref a3, .int 0, .int 0, .int 0, .int 0, .int (-1)]))]) [0] (by decide) rfl
  have hFc := va_free (wc := [(h0, .inr (4, [.ref n0, .ref a1, .ref a2, .ref a3, .int 0, .int 0, .int 0, .int 0, .int (-1)]))]) hD hS hA [0] rfl
  refine va_calli (va_runV (As := [.int 0]) (rest := []) ⟨hx, hb, hml, hown, hg⟩ (c_X4_term l dC dI cI cZ cL h0 (Array.size _) n0 a1 a2 a3) (cwV 1 hg (gw_V k_176 k_177 k_178 k_81 g_yX4_term) rfl rfl rfl (by decide +kernel) ⟨(Nat.le_of_ble_eq_true rfl), (Nat.le_of_ble_eq_true rfl)⟩) ⟨hp_bl, va_recv hK hPc (ci := 4) (q0 := 0) rfl rfl, fun U hU hW => hp_ok hU hW hPc hK hDc⟩ rfl rfl hl.1 rfl (lv_room (Nat.le_of_ble_eq_true rfl)) dX4_wholeTerm_2 ⟨(Nat.le_of_ble_eq_true rfl), (Nat.le_of_ble_eq_true rfl)⟩) hS (fun q _ h => hFc q h) hFc (fun r9 u t H locs ht hvm hw hB hz1 hk1 hS => ?_)
  obtain ⟨hP1, hD1⟩ := hB
  rw [ht] at hP1
  obtain ⟨hP, hD⟩ := va_join (wr := []) (w1 := [(h0, .inr (4, [.ref n0, .ref a1, .ref a2, .ref a3, .int 0, .int 0, .int 0, .int 0, .int 0]))]) hP hD [0] [] rfl rfl (by decide) (by decide) hk1 hFc hP1 hD1
  have hP : va_P (dC, dI) vwCl [(h0, .inr (4, [.ref n0, .ref a1, .ref a2, .ref a3, .int 0, .int 0, .int 0, .int 0, .int 0]))] H := hP
  have hD : va_D A [(h0, .inr (4, [.ref n0, .ref a1, .ref a2, .ref a3, .int 0, .int 0, .int 0, .int 0, .int 0]))] := hD
  refine W.widen (k := 0) (n := 0) (Nat.le_of_ble_eq_true rfl) (Nat.le_of_ble_eq_true rfl) ?_
  obtain rfl : r9 = (-1) := hw
  refine lv_istore_n (lv' := [(1, .int (-1)), (0, .ref h0)]) hx hb dX4_wholeTerm_5 rfl hl (by decide) rfl (fun ls hl => ?_)
  refine lv_iload_n hx hb dX4_wholeTerm_6 rfl (lv_at hl 0 rfl) ?_
  refine lv_iconst (v := (-1)) hx hb dX4_wholeTerm_7 (by decide) ?_
  refine lv_icmp_eq (tgt := 26) hx hb dX4_wholeTerm_8 (by decide) (fun _ => ?_) (fun c9 => absurd (by decide) c9)
  refine lv_iload_n hx hb dX4_wholeTerm_26 rfl (lv_at hl 0 rfl) ?_
  have hP9 := hP.sub (ws' := [(h0, .inr (4, [.ref n0, .ref a1, .ref a2, .ref a3, .int 0, .int 0, .int 0, .int 0, .int 0]))]) [0] rfl
  have hD9 := hD.sub (ws' := [(h0, .inr (4, [.ref n0, .ref a1, .ref a2, .ref a3, .int 0, .int 0, .int 0, .int 0, .int 0]))]) [0] (by decide) rfl
  refine W.widen (k := 0) (n := 0) (Nat.le_of_ble_eq_true rfl) (Nat.le_of_ble_eq_true rfl) ?_
  exact W.iret (v := (-1)) hx hb hr (fun t ht hW => ⟨⟨(-1), (), rfl, rfl, by rw [ht]; exact hP9, hD9⟩, hS.F ht⟩) hS.2.2 dX4_wholeTerm_27

set_option maxHeartbeats 4000000 in
set_option maxRecDepth 100000 in
/-- wrongAt() -/
theorem c_X4_wrongAt (l : Launch) (dC : Nat → ClassId) (dI : Nat → Nat → Nat) (cI cZ cL : ClassId) (h0 : Nat) (sz : Nat) (n0 a1 a2 a3 : Nat) : Met l yX4_wrongAt (wd yX4_wrongAt cX4_wrongAt 1 (some .int)) ({ frames := 0, cells := 0, slots := 0, locals := 0 }) (va_Pc [.ref h0] (hp dC dI cI cZ cL sz [(h0, .inr (4, [.ref n0, .ref a1, .ref a2, .ref a3, .int 0, .int 0, .int 0, .int 0, .int 0]))])) (va_Qi (fun (r : Int32) (_ : Unit) => r = 0) (fun (_ : Unit) t => va_P (dC, dI) vwCl [(h0, .inr (4, [.ref n0, .ref a1, .ref a2, .ref a3, .int 0, .int 0, .int 0, .int 0, .int 0]))] t.heap ∧ va_D (va_A [(h0, .inr (4, [.ref n0, .ref a1, .ref a2, .ref a3, .int 0, .int 0, .int 0, .int 0, .int 0]))] sz) [(h0, .inr (4, [.ref n0, .ref a1, .ref a2, .ref a3, .int 0, .int 0, .int 0, .int 0, .int 0]))]) (va_A [(h0, .inr (4, [.ref n0, .ref a1, .ref a2, .ref a3, .int 0, .int 0, .int 0, .int 0, .int 0]))] sz)) 0 0 (va_A [(h0, .inr (4, [.ref n0, .ref a1, .ref a2, .ref a3, .int 0, .int 0, .int 0, .int 0, .int 0]))] sz) := by
  refine Met.ofW (cc := cX4_wrongAt) (maxL := 1) (ret := (some .int)) (by decide) rfl ?_
  intro p e s m args below meth c s₁ B hml hv
  obtain ⟨rfl, hsz, hP, hK, hD0⟩ := hv
  have hx := B.exec
  have hb := B.bytes
  have hr := B.returns
  have hw9 := atoms_spec (ws := (wd yX4_wrongAt cX4_wrongAt 1 (some .int))) B.pre
  have hg := gw_hts hw9
  have hown : s.vm.findClass RX4 = some m.cls := findClass_of_methodNamed B.named
  have hlocks := B.notSynchronized
  subst hsz
  have hD := hD0.self (sz := s.heap.size)
  generalize hAe : va_A [(h0, .inr (4, [.ref n0, .ref a1, .ref a2, .ref a3, .int 0, .int 0, .int 0, .int 0, .int 0]))] s.heap.size = A at hD ⊢
  have hA : ∀ q : Nat, s.heap.size ≤ q → A q := fun q h => by rw [← hAe]; exact Or.inr h
  have hS : va_S A s.heap s.heap [] := va_S.rf
  have hl := lv_entry ([.ref h0]) (n := 1) (Nat.le_of_ble_eq_true rfl)
  rw [lg_entry_eq]
  generalize (lg_sl ([.ref h0]) ++ List.replicate (1 - (lg_sl ([.ref h0])).length) Slot.unset).toArray = ls at hl ⊢
  have hl : lv_has ls 1 [(0, .ref h0)] := hl
  refine lv_aload_n hx hb dX4_wrongAt_0 rfl (lv_at hl 0 rfl) ?_
  refine va_get (D := (dC, dI)) (ci := 4) (v := .int 0) (C := RX4) (T := TX4) (N := 9) hx hb hg i_X4 hown hK hP 0 rfl rfl 8 (by decide) (hg _ k_67) (fun _ h9 => h9) rfl dX4_wrongAt_1 ?_
  have hP9 := hP.sub (ws' := [(h0, .inr (4, [.ref n0, .ref a1, .ref a2, .ref a3, .int 0, .int 0, .int 0, .int 0, .int 0]))]) [0] rfl
  have hD9 := hD.sub (ws' := [(h0, .inr (4, [.ref n0, .ref a1, .ref a2, .ref a3, .int 0, .int 0, .int 0, .int 0, .int 0]))]) [0] (by decide) rfl
  refine W.widen (k := 0) (n := 0) (Nat.le_of_ble_eq_true rfl) (Nat.le_of_ble_eq_true rfl) ?_
  exact W.iret (v := 0) hx hb hr (fun t ht hW => ⟨⟨0, (), rfl, rfl, by rw [ht]; exact hP9, hD9⟩, hS.F ht⟩) hS.2.2 dX4_wrongAt_4

set_option maxHeartbeats 4000000 in
set_option maxRecDepth 100000 in
/-- typeAtom(0) of an empty text -/
theorem c_X4_typeAtom (l : Launch) (dC : Nat → ClassId) (dI : Nat → Nat → Nat) (cI cZ cL : ClassId) (h0 : Nat) (sz : Nat) (n0 a1 a2 a3 : Nat) : Met l yX4_typeAtom (wd yX4_typeAtom cX4_typeAtom 3 (some .int)) ({ frames := 1, cells := 0, slots := 0, locals := 20 }) (va_Pc [.ref h0, .int 0] (hp dC dI cI cZ cL sz [(h0, .inr (4, [.ref n0, .ref a1, .ref a2, .ref a3, .int 0, .int 0, .int 0, .int 0, .int (-1)]))])) (va_Qi (fun (r : Int32) (_ : Unit) => r = -1) (fun (_ : Unit) t => va_P (dC, dI) vwCl [(h0, .inr (4, [.ref n0, .ref a1, .ref a2, .ref a3, .int 0, .int 0, .int 0, .int 0, .int 0]))] t.heap ∧ va_D (va_A [(h0, .inr (4, [.ref n0, .ref a1, .ref a2, .ref a3, .int 0, .int 0, .int 0, .int 0, .int (-1)]))] sz) [(h0, .inr (4, [.ref n0, .ref a1, .ref a2, .ref a3, .int 0, .int 0, .int 0, .int 0, .int 0]))]) (va_A [(h0, .inr (4, [.ref n0, .ref a1, .ref a2, .ref a3, .int 0, .int 0, .int 0, .int 0, .int (-1)]))] sz)) 0 0 (va_A [(h0, .inr (4, [.ref n0, .ref a1, .ref a2, .ref a3, .int 0, .int 0, .int 0, .int 0, .int (-1)]))] sz) := by
  refine Met.ofW (cc := cX4_typeAtom) (maxL := 3) (ret := (some .int)) (by decide) rfl ?_
  intro p e s m args below meth c s₁ B hml hv
  obtain ⟨rfl, hsz, hP, hK, hD0⟩ := hv
  have hx := B.exec
  have hb := B.bytes
  have hr := B.returns
  have hw9 := atoms_spec (ws := (wd yX4_typeAtom cX4_typeAtom 3 (some .int))) B.pre
  have hg := gw_hts hw9
  have hown : s.vm.findClass RX4 = some m.cls := findClass_of_methodNamed B.named
  have hlocks := B.notSynchronized
  subst hsz
  have hD := hD0.self (sz := s.heap.size)
  generalize hAe : va_A [(h0, .inr (4, [.ref n0, .ref a1, .ref a2, .ref a3, .int 0, .int 0, .int 0, .int 0, .int (-1)]))] s.heap.size = A at hD ⊢
  have hA : ∀ q : Nat, s.heap.size ≤ q → A q := fun q h => by rw [← hAe]; exact Or.inr h
  have hS : va_S A s.heap s.heap [] := va_S.rf
  have hl := lv_entry ([.ref h0, .int 0]) (n := 3) (Nat.le_of_ble_eq_true rfl)
  rw [lg_entry_eq]
  generalize (lg_sl ([.ref h0, .int 0]) ++ List.replicate (3 - (lg_sl ([.ref h0, .int 0])).length) Slot.unset).toArray = ls at hl ⊢
  have hl : lv_has ls 3 [(0, .ref h0), (1, .int 0)] := hl
  refine lv_aload_n hx hb dX4_typeAtom_0 rfl (lv_at hl 0 rfl) ?_
  have hPc := hP.sub (ws' := [(h0, .inr (4, [.ref n0, .ref a1, .ref a2, .ref a3, .int 0, .int 0, .int 0, .int 0, .int (-1)]))]) [0] rfl
  have hDc := hD.sub (ws' := [(h0, .inr (4, [.ref n0, .ref a1, .ref a2, .ref a3, .int 0, .int 0, .int 0, .int 0, .int (-1)]))]) [0] (by decide) rfl
  have hFc := va_free (wc := [(h0, .inr (4, [.ref n0, .ref a1, .ref a2, .ref a3, .int 0, .int 0, .int 0, .int 0, .int (-1)]))]) hD hS hA [0] rfl
  refine va_calli (va_runV (As := []) (rest := []) ⟨hx, hb, hml, hown, hg⟩ (c_X4_peek l dC dI cI cZ cL h0 (Array.size _) n0 a1 a2 a3) (cwV 0 hg (gw_V k_165 k_166 k_167 k_81 g_yX4_peek) rfl rfl rfl (by decide +kernel) ⟨(Nat.le_of_ble_eq_true rfl), (Nat.le_of_ble_eq_true rfl)⟩) ⟨hp_bl, va_recv hK hPc (ci := 4) (q0 := 0) rfl rfl, fun U hU hW => hp_ok hU hW hPc hK hDc⟩ rfl rfl hl.1 rfl (lv_room (Nat.le_of_ble_eq_true rfl)) dX4_typeAtom_1 ⟨(Nat.le_of_ble_eq_true rfl), (Nat.le_of_ble_eq_true rfl)⟩) hS (fun q _ h => hFc q h) hFc (fun r9 u t H locs ht hvm hw hB hz1 hk1 hS => ?_)
  obtain ⟨hP1, hD1⟩ := hB
  rw [ht] at hP1
  obtain ⟨hP, hD⟩ := va_join (wr := []) (w1 := [(h0, .inr (4, [.ref n0, .ref a1, .ref a2, .ref a3, .int 0, .int 0, .int 0, .int 0, .int (-1)]))]) hP hD [0] [] rfl rfl (by decide) (by decide) hk1 hFc hP1 hD1
  have hP : va_P (dC, dI) vwCl [(h0, .inr (4, [.ref n0, .ref a1, .ref a2, .ref a3, .int 0, .int 0, .int 0, .int 0, .int (-1)]))] H := hP
  have hD : va_D A [(h0, .inr (4, [.ref n0, .ref a1, .ref a2, .ref a3, .int 0, .int 0, .int 0, .int 0, .int (-1)]))] := hD
  refine W.widen (k := 0) (n := 0) (Nat.le_of_ble_eq_true rfl) (Nat.le_of_ble_eq_true rfl) ?_
  obtain rfl : r9 = (-1) := hw
  refine lv_istore_n (lv' := [(2, .int (-1)), (0, .ref h0), (1, .int 0)]) hx hb dX4_typeAtom_4 rfl hl (by decide) rfl (fun ls hl => ?_)
  refine lv_iload_n hx hb dX4_typeAtom_5 rfl (lv_at hl 2 rfl) ?_
  refine lv_bipush (v := 40) hx hb dX4_typeAtom_6 (by decide) ?_
  refine lv_icmp_le (tgt := 16) hx hb dX4_typeAtom_8 (by decide) (fun _ => ?_) (fun c9 => absurd (by decide) c9)
  refine lv_iload_n hx hb dX4_typeAtom_16 rfl (lv_at hl 0 rfl) ?_
  refine lv_bipush (v := 49) hx hb dX4_typeAtom_17 (by decide) ?_
  refine lv_icmp_ne (tgt := 34) hx hb dX4_typeAtom_19 (by decide) (fun _ => ?_) (fun c9 => absurd c9 (by decide))
  refine lv_iload_n hx hb dX4_typeAtom_34 rfl (lv_at hl 0 rfl) ?_
  refine lv_bipush (v := 33) hx hb dX4_typeAtom_35 (by decide) ?_
  refine lv_icmp_ne (tgt := 46) hx hb dX4_typeAtom_37 (by decide) (fun _ => ?_) (fun c9 => absurd c9 (by decide))
  refine lv_iload_n hx hb dX4_typeAtom_46 rfl (lv_at hl 0 rfl) ?_
  refine lv_bipush (v := 40) hx hb dX4_typeAtom_47 (by decide) ?_
  refine lv_icmp_ne (tgt := 58) hx hb dX4_typeAtom_49 (by decide) (fun _ => ?_) (fun c9 => absurd c9 (by decide))
  refine lv_iload_n hx hb dX4_typeAtom_58 rfl (lv_at hl 0 rfl) ?_
  have hPc := hP.sub (ws' := []) [] rfl
  have hDc := hD.sub (ws' := []) [] (by decide) rfl
  have hFc := va_free (wc := []) hD hS hA [] rfl
  refine va_calli (va_runS (As := [.int (-1)]) (rest := []) ⟨hx, hb, hml, hown, hg⟩ (c_X4_isLetter l dC dI cI cZ cL  (Array.size _)) (va_cwS 1 hg (gw_S k_168 k_169 k_81 g_yX4_isLetter) rfl rfl rfl (by decide +kernel) ⟨(Nat.le_of_ble_eq_true rfl), (Nat.le_of_ble_eq_true rfl)⟩) ⟨hp_bl, fun U hU hW => hp_ok hU hW hPc hK hDc⟩ rfl rfl hl.1 rfl (lv_room (Nat.le_of_ble_eq_true rfl)) dX4_typeAtom_59 ⟨(Nat.le_of_ble_eq_true rfl), (Nat.le_of_ble_eq_true rfl)⟩) hS (fun q _ h => hFc q h) hFc (fun r9 u t H locs ht hvm hw hB hz1 hk1 hS => ?_)
  obtain ⟨hP1, hD1⟩ := hB
  rw [ht] at hP1
  obtain ⟨hP, hD⟩ := va_join (wr := [(h0, .inr (4, [.ref n0, .ref a1, .ref a2, .ref a3, .int 0, .int 0, .int 0, .int 0, .int (-1)]))]) (w1 := []) hP hD [] [0] rfl rfl (by decide) (by decide) hk1 hFc hP1 hD1
  have hP : va_P (dC, dI) vwCl [(h0, .inr (4, [.ref n0, .ref a1, .ref a2, .ref a3, .int 0, .int 0, .int 0, .int 0, .int (-1)]))] H := hP
  have hD : va_D A [(h0, .inr (4, [.ref n0, .ref a1, .ref a2, .ref a3, .int 0, .int 0, .int 0, .int 0, .int (-1)]))] := hD
  refine W.widen (k := 0) (n := 0) (Nat.le_of_ble_eq_true rfl) (Nat.le_of_ble_eq_true rfl) ?_
  obtain rfl : r9 = 0 := hw
  refine lv_if_eq (tgt := 73) hx hb dX4_typeAtom_62 (by decide) (fun _ => ?_) (fun c9 => absurd (by decide) c9)
  refine lv_aload_n hx hb dX4_typeAtom_73 rfl (lv_at hl 1 rfl) ?_
  have hPc := hP.sub (ws' := [(h0, .inr (4, [.ref n0, .ref a1, .ref a2, .ref a3, .int 0, .int 0, .int 0, .int 0, .int (-1)]))]) [0] rfl
  have hDc := hD.sub (ws' := [(h0, .inr (4, [.ref n0, .ref a1, .ref a2, .ref a3, .int 0, .int 0, .int 0, .int 0, .int (-1)]))]) [0] (by decide) rfl
  have hFc := va_free (wc := [(h0, .inr (4, [.ref n0, .ref a1, .ref a2, .ref a3, .int 0, .int 0, .int 0, .int 0, .int (-1)]))]) hD hS hA [0] rfl
  refine va_calli (va_runV (As := []) (rest := []) ⟨hx, hb, hml, hown, hg⟩ (c_X4_refuse l dC dI cI cZ cL h0 (Array.size _) n0 a1 a2 a3) (cwV 0 hg (gw_V k_170 k_171 k_172 k_81 g_yX4_refuse) rfl rfl rfl (by decide +kernel) ⟨(Nat.le_of_ble_eq_true rfl), (Nat.le_of_ble_eq_true rfl)⟩) ⟨hp_bl, va_recv hK hPc (ci := 4) (q0 := 0) rfl rfl, fun U hU hW => hp_ok hU hW hPc hK hDc⟩ rfl rfl hl.1 rfl (lv_room (Nat.le_of_ble_eq_true rfl)) dX4_typeAtom_74 ⟨(Nat.le_of_ble_eq_true rfl), (Nat.le_of_ble_eq_true rfl)⟩) hS (fun q _ h => hFc q h) hFc (fun r9 u t H locs ht hvm hw hB hz1 hk1 hS => ?_)
  obtain ⟨hP1, hD1⟩ := hB
  rw [ht] at hP1
  obtain ⟨hP, hD⟩ := va_join (wr := []) (w1 := [(h0, .inr (4, [.ref n0, .ref a1, .ref a2, .ref a3, .int 0, .int 0, .int 0, .int 0, .int 0]))]) hP hD [0] [] rfl rfl (by decide) (by decide) hk1 hFc hP1 hD1
  have hP : va_P (dC, dI) vwCl [(h0, .inr (4, [.ref n0, .ref a1, .ref a2, .ref a3, .int 0, .int 0, .int 0, .int 0, .int 0]))] H := hP
  have hD : va_D A [(h0, .inr (4, [.ref n0, .ref a1, .ref a2, .ref a3, .int 0, .int 0, .int 0, .int 0, .int 0]))] := hD
  refine W.widen (k := 0) (n := 0) (Nat.le_of_ble_eq_true rfl) (Nat.le_of_ble_eq_true rfl) ?_
  obtain rfl : r9 = (-1) := hw
  have hP9 := hP.sub (ws' := [(h0, .inr (4, [.ref n0, .ref a1, .ref a2, .ref a3, .int 0, .int 0, .int 0, .int 0, .int 0]))]) [0] rfl
  have hD9 := hD.sub (ws' := [(h0, .inr (4, [.ref n0, .ref a1, .ref a2, .ref a3, .int 0, .int 0, .int 0, .int 0, .int 0]))]) [0] (by decide) rfl
  refine W.widen (k := 0) (n := 0) (Nat.le_of_ble_eq_true rfl) (Nat.le_of_ble_eq_true rfl) ?_
  exact W.iret (v := (-1)) hx hb hr (fun t ht hW => ⟨⟨(-1), (), rfl, rfl, by rw [ht]; exact hP9, hD9⟩, hS.F ht⟩) hS.2.2 dX4_typeAtom_77

set_option maxHeartbeats 4000000 in
set_option maxRecDepth 100000 in
/-- type(0) of an empty text -/
theorem c_X4_type (l : Launch) (dC : Nat → ClassId) (dI : Nat → Nat → Nat) (cI cZ cL : ClassId) (h0 : Nat) (sz : Nat) (n0 a1 a2 a3 : Nat) : Met l yX4_type (wd yX4_type cX4_type 3 (some .int)) ({ frames := 2, cells := 0, slots := 0, locals := 42 }) (va_Pc [.ref h0, .int 0] (hp dC dI cI cZ cL sz [(h0, .inr (4, [.ref n0, .ref a1, .ref a2, .ref a3, .int 0, .int 0, .int 0, .int 0, .int (-1)]))])) (va_Qi (fun (r : Int32) (_ : Unit) => r = -1) (fun (_ : Unit) t => va_P (dC, dI) vwCl [(h0, .inr (4, [.ref n0, .ref a1, .ref a2, .ref a3, .int 0, .int 0, .int 0, .int 0, .int 0]))] t.heap ∧ va_D (va_A [(h0, .inr (4, [.ref n0, .ref a1, .ref a2, .ref a3, .int 0, .int 0, .int 0, .int 0, .int (-1)]))] sz) [(h0, .inr (4, [.ref n0, .ref a1, .ref a2, .ref a3, .int 0, .int 0, .int 0, .int 0, .int 0]))]) (va_A [(h0, .inr (4, [.ref n0, .ref a1, .ref a2, .ref a3, .int 0, .int 0, .int 0, .int 0, .int (-1)]))] sz)) 0 0 (va_A [(h0, .inr (4, [.ref n0, .ref a1, .ref a2, .ref a3, .int 0, .int 0, .int 0, .int 0, .int (-1)]))] sz) := by
  refine Met.ofW (cc := cX4_type) (maxL := 3) (ret := (some .int)) (by decide) rfl ?_
  intro p e s m args below meth c s₁ B hml hv
  obtain ⟨rfl, hsz, hP, hK, hD0⟩ := hv
  have hx := B.exec
  have hb := B.bytes
  have hr := B.returns
  have hw9 := atoms_spec (ws := (wd yX4_type cX4_type 3 (some .int))) B.pre
  have hg := gw_hts hw9
  have hown : s.vm.findClass RX4 = some m.cls := findClass_of_methodNamed B.named
  have hlocks := B.notSynchronized
  subst hsz
  have hD := hD0.self (sz := s.heap.size)
  generalize hAe : va_A [(h0, .inr (4, [.ref n0, .ref a1, .ref a2, .ref a3, .int 0, .int 0, .int 0, .int 0, .int (-1)]))] s.heap.size = A at hD ⊢
  have hA : ∀ q : Nat, s.heap.size ≤ q → A q := fun q h => by rw [← hAe]; exact Or.inr h
  have hS : va_S A s.heap s.heap [] := va_S.rf
  have hl := lv_entry ([.ref h0, .int 0]) (n := 3) (Nat.le_of_ble_eq_true rfl)
  rw [lg_entry_eq]
  generalize (lg_sl ([.ref h0, .int 0]) ++ List.replicate (3 - (lg_sl ([.ref h0, .int 0])).length) Slot.unset).toArray = ls at hl ⊢
  have hl : lv_has ls 3 [(0, .ref h0), (1, .int 0)] := hl
  refine lv_aload_n hx hb dX4_type_0 rfl (lv_at hl 0 rfl) ?_
  refine lv_iload_n hx hb dX4_type_1 rfl (lv_at hl 1 rfl) ?_
  have hPc := hP.sub (ws' := [(h0, .inr (4, [.ref n0, .ref a1, .ref a2, .ref a3, .int 0, .int 0, .int 0, .int 0, .int (-1)]))]) [0] rfl
  have hDc := hD.sub (ws' := [(h0, .inr (4, [.ref n0, .ref a1, .ref a2, .ref a3, .int 0, .int 0, .int 0, .int 0, .int (-1)]))]) [0] (by decide) rfl
  have hFc := va_free (wc := [(h0, .inr (4, [.ref n0, .ref a1, .ref a2, .ref a3, .int 0, .int 0, .int 0, .int 0, .int (-1)]))]) hD hS hA [0] rfl
  refine va_calli (va_runV (As := [.int 0]) (rest := []) ⟨hx, hb, hml, hown, hg⟩ (c_X4_typeAtom l dC dI cI cZ cL h0 (Array.size _) n0 a1 a2 a3) (cwV 1 hg (gw_V k_179 k_180 k_181 k_81 g_yX4_typeAtom) rfl rfl rfl (by decide +kernel) ⟨(Nat.le_of_ble_eq_true rfl), (Nat.le_of_ble_eq_true rfl)⟩) ⟨hp_bl, va_recv hK hPc (ci := 4) (q0 := 0) rfl rfl, fun U hU hW => hp_ok hU hW hPc hK hDc⟩ rfl rfl hl.1 rfl (lv_room (Nat.le_of_ble_eq_true rfl)) dX4_type_2 ⟨(Nat.le_of_ble_eq_true rfl), (Nat.le_of_ble_eq_true rfl)⟩) hS (fun q _ h => hFc q h) hFc (fun r9 u t H locs ht hvm hw hB hz1 hk1 hS => ?_)
  obtain ⟨hP1, hD1⟩ := hB
  rw [ht] at hP1
  obtain ⟨hP, hD⟩ := va_join (wr := []) (w1 := [(h0, .inr (4, [.ref n0, .ref a1, .ref a2, .ref a3, .int 0, .int 0, .int 0, .int 0, .int 0]))]) hP hD [0] [] rfl rfl (by decide) (by decide) hk1 hFc hP1 hD1
  have hP : va_P (dC, dI) vwCl [(h0, .inr (4, [.ref n0, .ref a1, .ref a2, .ref a3, .int 0, .int 0, .int 0, .int 0, .int 0]))] H := hP
  have hD : va_D A [(h0, .inr (4, [.ref n0, .ref a1, .ref a2, .ref a3, .int 0, .int 0, .int 0, .int 0, .int 0]))] := hD
  refine W.widen (k := 0) (n := 0) (Nat.le_of_ble_eq_true rfl) (Nat.le_of_ble_eq_true rfl) ?_
  obtain rfl : r9 = (-1) := hw
  refine lv_istore_n (lv' := [(2, .int (-1)), (0, .ref h0), (1, .int 0)]) hx hb dX4_type_5 rfl hl (by decide) rfl (fun ls hl => ?_)
  refine lv_iload_n hx hb dX4_type_6 rfl (lv_at hl 0 rfl) ?_
  refine lv_iconst (v := (-1)) hx hb dX4_type_7 (by decide) ?_
  refine lv_icmp_eq (tgt := 20) hx hb dX4_type_8 (by decide) (fun _ => ?_) (fun c9 => absurd (by decide) c9)
  refine lv_iload_n hx hb dX4_type_20 rfl (lv_at hl 0 rfl) ?_
  have hP9 := hP.sub (ws' := [(h0, .inr (4, [.ref n0, .ref a1, .ref a2, .ref a3, .int 0, .int 0, .int 0, .int 0, .int 0]))]) [0] rfl
  have hD9 := hD.sub (ws' := [(h0, .inr (4, [.ref n0, .ref a1, .ref a2, .ref a3, .int 0, .int 0, .int 0, .int 0, .int 0]))]) [0] (by decide) rfl
  refine W.widen (k := 0) (n := 0) (Nat.le_of_ble_eq_true rfl) (Nat.le_of_ble_eq_true rfl) ?_
  exact W.iret (v := (-1)) hx hb hr (fun t ht hW => ⟨⟨(-1), (), rfl, rfl, by rw [ht]; exact hP9, hD9⟩, hS.F ht⟩) hS.2.2 dX4_type_21

set_option maxHeartbeats 4000000 in
set_option maxRecDepth 100000 in
/-- typeBeforeSign() of an empty text -/
theorem c_X4_typeBeforeSign (l : Launch) (dC : Nat → ClassId) (dI : Nat → Nat → Nat) (cI cZ cL : ClassId) (h0 : Nat) (sz : Nat) (n0 a1 a2 a3 : Nat) : Met l yX4_typeBeforeSign (wd yX4_typeBeforeSign cX4_typeBeforeSign 2 (some .int)) ({ frames := 3, cells := 0, slots := 0, locals := 64 }) (va_Pc [.ref h0] (hp dC dI cI cZ cL sz [(h0, .inr (4, [.ref n0, .ref a1, .ref a2, .ref a3, .int 0, .int 0, .int 0, .int 0, .int (-1)]))])) (va_Qi (fun (r : Int32) (_ : Unit) => r = -1) (fun (_ : Unit) t => va_P (dC, dI) vwCl [(h0, .inr (4, [.ref n0, .ref a1, .ref a2, .ref a3, .int 0, .int 0, .int 0, .int 0, .int 0]))] t.heap ∧ va_D (va_A [(h0, .inr (4, [.ref n0, .ref a1, .ref a2, .ref a3, .int 0, .int 0, .int 0, .int 0, .int (-1)]))] sz) [(h0, .inr (4, [.ref n0, .ref a1, .ref a2, .ref a3, .int 0, .int 0, .int 0, .int 0, .int 0]))]) (va_A [(h0, .inr (4, [.ref n0, .ref a1, .ref a2, .ref a3, .int 0, .int 0, .int 0, .int 0, .int (-1)]))] sz)) 0 0 (va_A [(h0, .inr (4, [.ref n0, .ref a1, .ref a2, .ref a3, .int 0, .int 0, .int 0, .int 0, .int (-1)]))] sz) := by
  refine Met.ofW (cc := cX4_typeBeforeSign) (maxL := 2) (ret := (some .int)) (by decide) rfl ?_
  intro p e s m args below meth c s₁ B hml hv
  obtain ⟨rfl, hsz, hP, hK, hD0⟩ := hv
  have hx := B.exec
  have hb := B.bytes
  have hr := B.returns
  have hw9 := atoms_spec (ws := (wd yX4_typeBeforeSign cX4_typeBeforeSign 2 (some .int))) B.pre
  have hg := gw_hts hw9
  have hown : s.vm.findClass RX4 = some m.cls := findClass_of_methodNamed B.named
  have hlocks := B.notSynchronized
  subst hsz
  have hD := hD0.self (sz := s.heap.size)
  generalize hAe : va_A [(h0, .inr (4, [.ref n0, .ref a1, .ref a2, .ref a3, .int 0, .int 0, .int 0, .int 0, .int (-1)]))] s.heap.size = A at hD ⊢
  have hA : ∀ q : Nat, s.heap.size ≤ q → A q := fun q h => by rw [← hAe]; exact Or.inr h
  have hS : va_S A s.heap s.heap [] := va_S.rf
  have hl := lv_entry ([.ref h0]) (n := 2) (Nat.le_of_ble_eq_true rfl)
  rw [lg_entry_eq]
  generalize (lg_sl ([.ref h0]) ++ List.replicate (2 - (lg_sl ([.ref h0])).length) Slot.unset).toArray = ls at hl ⊢
  have hl : lv_has ls 2 [(0, .ref h0)] := hl
  refine lv_aload_n hx hb dX4_typeBeforeSign_0 rfl (lv_at hl 0 rfl) ?_
  refine lv_iconst (v := 0) hx hb dX4_typeBeforeSign_1 (by decide) ?_
  have hPc := hP.sub (ws' := [(h0, .inr (4, [.ref n0, .ref a1, .ref a2, .ref a3, .int 0, .int 0, .int 0, .int 0, .int (-1)]))]) [0] rfl
  have hDc := hD.sub (ws' := [(h0, .inr (4, [.ref n0, .ref a1, .ref a2, .ref a3, .int 0, .int 0, .int 0, .int 0, .int (-1)]))]) [0] (by decide) rfl
  have hFc := va_free (wc := [(h0, .inr (4, [.ref n0, .ref a1, .ref a2, .ref a3, .int 0, .int 0, .int 0, .int 0, .int (-1)]))]) hD hS hA [0] rfl
  refine va_calli (va_runV (As := [.int 0]) (rest := []) ⟨hx, hb, hml, hown, hg⟩ (c_X4_type l dC dI cI cZ cL h0 (Array.size _) n0 a1 a2 a3) (cwV 1 hg (gw_V k_182 k_183 k_184 k_81 g_yX4_type) rfl rfl rfl (by decide +kernel) ⟨(Nat.le_of_ble_eq_true rfl), (Nat.le_of_ble_eq_true rfl)⟩) ⟨hp_bl, va_recv hK hPc (ci := 4) (q0 := 0) rfl rfl, fun U hU hW => hp_ok hU hW hPc hK hDc⟩ rfl rfl hl.1 rfl (lv_room (Nat.le_of_ble_eq_true rfl)) dX4_typeBeforeSign_2 ⟨(Nat.le_of_ble_eq_true rfl), (Nat.le_of_ble_eq_true rfl)⟩) hS (fun q _ h => hFc q h) hFc (fun r9 u t H locs ht hvm hw hB hz1 hk1 hS => ?_)
  obtain ⟨hP1, hD1⟩ := hB
  rw [ht] at hP1
  obtain ⟨hP, hD⟩ := va_join (wr := []) (w1 := [(h0, .inr (4, [.ref n0, .ref a1, .ref a2, .ref a3, .int 0, .int 0, .int 0, .int 0, .int 0]))]) hP hD [0] [] rfl rfl (by decide) (by decide) hk1 hFc hP1 hD1
  have hP : va_P (dC, dI) vwCl [(h0, .inr (4, [.ref n0, .ref a1, .ref a2, .ref a3, .int 0, .int 0, .int 0, .int 0, .int 0]))] H := hP
  have hD : va_D A [(h0, .inr (4, [.ref n0, .ref a1, .ref a2, .ref a3, .int 0, .int 0, .int 0, .int 0, .int 0]))] := hD
  refine W.widen (k := 0) (n := 0) (Nat.le_of_ble_eq_true rfl) (Nat.le_of_ble_eq_true rfl) ?_
  obtain rfl : r9 = (-1) := hw
  refine lv_istore_n (lv' := [(1, .int (-1)), (0, .ref h0)]) hx hb dX4_typeBeforeSign_5 rfl hl (by decide) rfl (fun ls hl => ?_)
  refine lv_iload_n hx hb dX4_typeBeforeSign_6 rfl (lv_at hl 0 rfl) ?_
  refine lv_iconst (v := (-1)) hx hb dX4_typeBeforeSign_7 (by decide) ?_
  refine lv_icmp_ne (tgt := 13) hx hb dX4_typeBeforeSign_8 (by decide) (fun c9 => absurd c9 (by decide)) (fun _ => ?_)
  refine lv_iconst (v := (-1)) hx hb dX4_typeBeforeSign_11 (by decide) ?_
  have hP9 := hP.sub (ws' := [(h0, .inr (4, [.ref n0, .ref a1, .ref a2, .ref a3, .int 0, .int 0, .int 0, .int 0, .int 0]))]) [0] rfl
  have hD9 := hD.sub (ws' := [(h0, .inr (4, [.ref n0, .ref a1, .ref a2, .ref a3, .int 0, .int 0, .int 0, .int 0, .int 0]))]) [0] (by decide) rfl
  refine W.widen (k := 0) (n := 0) (Nat.le_of_ble_eq_true rfl) (Nat.le_of_ble_eq_true rfl) ?_
  exact W.iret (v := (-1)) hx hb hr (fun t ht hW => ⟨⟨(-1), (), rfl, rfl, by rw [ht]; exact hP9, hD9⟩, hS.F ht⟩) hS.2.2 dX4_typeBeforeSign_12

set_option maxHeartbeats 4000000 in
set_option maxRecDepth 100000 in
/-- typeBehindSign() behind a refusal -/
theorem c_X4_typeBehindSign (l : Launch) (dC : Nat → ClassId) (dI : Nat → Nat → Nat) (cI cZ cL : ClassId) (h0 : Nat) (sz : Nat) (n0 a1 a2 a3 : Nat) : Met l yX4_typeBehindSign (wd yX4_typeBehindSign cX4_typeBehindSign 2 (some .int)) ({ frames := 0, cells := 0, slots := 0, locals := 0 }) (va_Pc [.ref h0] (hp dC dI cI cZ cL sz [(h0, .inr (4, [.ref n0, .ref a1, .ref a2, .ref a3, .int 0, .int 0, .int 0, .int 0, .int 0]))])) (va_Qi (fun (r : Int32) (_ : Unit) => r = -1) (fun (_ : Unit) t => va_P (dC, dI) vwCl [(h0, .inr (4, [.ref n0, .ref a1, .ref a2, .ref a3, .int 0, .int 0, .int 0, .int 0, .int 0]))] t.heap ∧ va_D (va_A [(h0, .inr (4, [.ref n0, .ref a1, .ref a2, .ref a3, .int 0, .int 0, .int 0, .int 0, .int 0]))] sz) [(h0, .inr (4, [.ref n0, .ref a1, .ref a2, .ref a3, .int 0, .int 0, .int 0, .int 0, .int 0]))]) (va_A [(h0, .inr (4, [.ref n0, .ref a1, .ref a2, .ref a3, .int 0, .int 0, .int 0, .int 0, .int 0]))] sz)) 0 0 (va_A [(h0, .inr (4, [.ref n0, .ref a1, .ref a2, .ref a3, .int 0, .int 0, .int 0, .int 0, .int 0]))] sz) := by
  refine Met.ofW (cc := cX4_typeBehindSign) (maxL := 2) (ret := (some .int)) (by decide) rfl ?_
  intro p e s m args below meth c s₁ B hml hv
  obtain ⟨rfl, hsz, hP, hK, hD0⟩ := hv
  have hx := B.exec
  have hb := B.bytes
  have hr := B.returns
  have hw9 := atoms_spec (ws := (wd yX4_typeBehindSign cX4_typeBehindSign 2 (some .int))) B.pre
  have hg := gw_hts hw9
  have hown : s.vm.findClass RX4 = some m.cls := findClass_of_methodNamed B.named
  have hlocks := B.notSynchronized
  subst hsz
  have hD := hD0.self (sz := s.heap.size)
  generalize hAe : va_A [(h0, .inr (4, [.ref n0, .ref a1, .ref a2, .ref a3, .int 0, .int 0, .int 0, .int 0, .int 0]))] s.heap.size = A at hD ⊢
  have hA : ∀ q : Nat, s.heap.size ≤ q → A q := fun q h => by rw [← hAe]; exact Or.inr h
  have hS : va_S A s.heap s.heap [] := va_S.rf
  have hl := lv_entry ([.ref h0]) (n := 2) (Nat.le_of_ble_eq_true rfl)
  rw [lg_entry_eq]
  generalize (lg_sl ([.ref h0]) ++ List.replicate (2 - (lg_sl ([.ref h0])).length) Slot.unset).toArray = ls at hl ⊢
  have hl : lv_has ls 2 [(0, .ref h0)] := hl
  refine lv_aload_n hx hb dX4_typeBehindSign_0 rfl (lv_at hl 0 rfl) ?_
  refine va_get (D := (dC, dI)) (ci := 4) (v := .int 0) (C := RX4) (T := TX4) (N := 9) hx hb hg i_X4 hown hK hP 0 rfl rfl 8 (by decide) (hg _ k_67) (fun _ h9 => h9) rfl dX4_typeBehindSign_1 ?_
  refine lv_iconst (v := (-1)) hx hb dX4_typeBehindSign_4 (by decide) ?_
  refine lv_icmp_eq (tgt := 10) hx hb dX4_typeBehindSign_5 (by decide) (fun c9 => absurd c9 (by decide)) (fun _ => ?_)
  refine lv_iconst (v := (-1)) hx hb dX4_typeBehindSign_8 (by decide) ?_
  have hP9 := hP.sub (ws' := [(h0, .inr (4, [.ref n0, .ref a1, .ref a2, .ref a3, .int 0, .int 0, .int 0, .int 0, .int 0]))]) [0] rfl
  have hD9 := hD.sub (ws' := [(h0, .inr (4, [.ref n0, .ref a1, .ref a2, .ref a3, .int 0, .int 0, .int 0, .int 0, .int 0]))]) [0] (by decide) rfl
  refine W.widen (k := 0) (n := 0) (Nat.le_of_ble_eq_true rfl) (Nat.le_of_ble_eq_true rfl) ?_
  exact W.iret (v := (-1)) hx hb hr (fun t ht hW => ⟨⟨(-1), (), rfl, rfl, by rw [ht]; exact hP9, hD9⟩, hS.F ht⟩) hS.2.2 dX4_typeBehindSign_9

set_option maxHeartbeats 4000000 in
set_option maxRecDepth 100000 in
/-- place() of a new object -/
theorem c_X6_place (l : Launch) (dC : Nat → ClassId) (dI : Nat → Nat → Nat) (cI cZ cL : ClassId) (h0 : Nat) (sz : Nat) (n0 r0 j0 p0 a1 : Nat) : Met l yX6_place (wd yX6_place cX6_place 1 (some .int)) ({ frames := 0, cells := 0, slots := 0, locals := 0 }) (va_Pc [.ref h0] (hp dC dI cI cZ cL sz [(h0, .inr (6, [.ref a1, .int 0, .int (-1), .ref n0, .ref r0, .ref j0, .ref p0]))])) (va_Qi (fun (r : Int32) (_ : Unit) => r = -1) (fun (_ : Unit) t => va_P (dC, dI) vwCl [] t.heap ∧ va_D (va_A [(h0, .inr (6, [.ref a1, .int 0, .int (-1), .ref n0, .ref r0, .ref j0, .ref p0]))] sz) []) (va_A [(h0, .inr (6, [.ref a1, .int 0, .int (-1), .ref n0, .ref r0, .ref j0, .ref p0]))] sz)) 0 0 (va_A [(h0, .inr (6, [.ref a1, .int 0, .int (-1), .ref n0, .ref r0, .ref j0, .ref p0]))] sz) := by
  refine Met.ofW (cc := cX6_place) (maxL := 1) (ret := (some .int)) (by decide) rfl ?_
  intro p e s m args below meth c s₁ B hml hv
  obtain ⟨rfl, hsz, hP, hK, hD0⟩ := hv
  have hx := B.exec
  have hb := B.bytes
  have hr := B.returns
  have hw9 := atoms_spec (ws := (wd yX6_place cX6_place 1 (some .int))) B.pre
  have hg := gw_hts hw9
  have hown : s.vm.findClass RX6 = some m.cls := findClass_of_methodNamed B.named
  have hlocks := B.notSynchronized
  subst hsz
  have hD := hD0.self (sz := s.heap.size)
  generalize hAe : va_A [(h0, .inr (6, [.ref a1, .int 0, .int (-1), .ref n0, .ref r0, .ref j0, .ref p0]))] s.heap.size = A at hD ⊢
  have hA : ∀ q : Nat, s.heap.size ≤ q → A q := fun q h => by rw [← hAe]; exact Or.inr h
  have hS : va_S A s.heap s.heap [] := va_S.rf
  have hl := lv_entry ([.ref h0]) (n := 1) (Nat.le_of_ble_eq_true rfl)
  rw [lg_entry_eq]
  generalize (lg_sl ([.ref h0]) ++ List.replicate (1 - (lg_sl ([.ref h0])).length) Slot.unset).toArray = ls at hl ⊢
  have hl : lv_has ls 1 [(0, .ref h0)] := hl
  refine lv_aload_n hx hb dX6_place_0 rfl (lv_at hl 0 rfl) ?_
  refine va_get (D := (dC, dI)) (ci := 6) (v := .int (-1)) (C := RX6) (T := TX6) (N := 7) hx hb hg i_X6 hown hK hP 0 rfl rfl 2 (by decide) (hg _ k_73) (fun _ h9 => h9) rfl dX6_place_1 ?_
  have hP9 := hP.sub (ws' := []) [] rfl
  have hD9 := hD.sub (ws' := []) [] (by decide) rfl
  refine W.widen (k := 0) (n := 0) (Nat.le_of_ble_eq_true rfl) (Nat.le_of_ble_eq_true rfl) ?_
  exact W.iret (v := (-1)) hx hb hr (fun t ht hW => ⟨⟨(-1), (), rfl, rfl, by rw [ht]; exact hP9, hD9⟩, hS.F ht⟩) hS.2.2 dX6_place_4

set_option maxHeartbeats 4000000 in
set_option maxRecDepth 100000 in
/-- has(NONE) -/
theorem c_X2_has (l : Launch) (dC : Nat → ClassId) (dI : Nat → Nat → Nat) (cI cZ cL : ClassId) (h0 : Nat) (sz : Nat) (b1 b2 b3 b4 b5 : Nat) : Met l yX2_has (wd yX2_has cX2_has 2 (some .boolean)) ({ frames := 0, cells := 0, slots := 0, locals := 0 }) (va_Pc [.ref h0, .int (-1)] (hp dC dI cI cZ cL sz [(h0, .inr (2, [.ref b1, .ref b2, .ref b3, .ref b4, .ref b5, .int 0]))])) (va_Qi (fun (r : Int32) (_ : Unit) => r = 0) (fun (_ : Unit) t => va_P (dC, dI) vwCl [(h0, .inr (2, [.ref b1, .ref b2, .ref b3, .ref b4, .ref b5, .int 0]))] t.heap ∧ va_D (va_A [(h0, .inr (2, [.ref b1, .ref b2, .ref b3, .ref b4, .ref b5, .int 0]))] sz) [(h0, .inr (2, [.ref b1, .ref b2, .ref b3, .ref b4, .ref b5, .int 0]))]) (va_A [(h0, .inr (2, [.ref b1, .ref b2, .ref b3, .ref b4, .ref b5, .int 0]))] sz)) 0 0 (va_A [(h0, .inr (2, [.ref b1, .ref b2, .ref b3, .ref b4, .ref b5, .int 0]))] sz) := by
  refine Met.ofW (cc := cX2_has) (maxL := 2) (ret := (some .boolean)) (by decide) rfl ?_
  intro p e s m args below meth c s₁ B hml hv
  obtain ⟨rfl, hsz, hP, hK, hD0⟩ := hv
  have hx := B.exec
  have hb := B.bytes
  have hr := B.returns
  have hw9 := atoms_spec (ws := (wd yX2_has cX2_has 2 (some .boolean))) B.pre
  have hg := gw_hts hw9
  have hown : s.vm.findClass RX2 = some m.cls := findClass_of_methodNamed B.named
  have hlocks := B.notSynchronized
  subst hsz
  have hD := hD0.self (sz := s.heap.size)
  generalize hAe : va_A [(h0, .inr (2, [.ref b1, .ref b2, .ref b3, .ref b4, .ref b5, .int 0]))] s.heap.size = A at hD ⊢
  have hA : ∀ q : Nat, s.heap.size ≤ q → A q := fun q h => by rw [← hAe]; exact Or.inr h
  have hS : va_S A s.heap s.heap [] := va_S.rf
  have hl := lv_entry ([.ref h0, .int (-1)]) (n := 2) (Nat.le_of_ble_eq_true rfl)
  rw [lg_entry_eq]
  generalize (lg_sl ([.ref h0, .int (-1)]) ++ List.replicate (2 - (lg_sl ([.ref h0, .int (-1)])).length) Slot.unset).toArray = ls at hl ⊢
  have hl : lv_has ls 2 [(0, .ref h0), (1, .int (-1))] := hl
  refine lv_iload_n hx hb dX2_has_0 rfl (lv_at hl 1 rfl) ?_
  refine lv_if_lt (tgt := 16) hx hb dX2_has_1 (by decide) (fun _ => ?_) (fun c9 => absurd (by decide) c9)
  refine lv_iconst (v := 0) hx hb dX2_has_16 (by decide) ?_
  have hP9 := hP.sub (ws' := [(h0, .inr (2, [.ref b1, .ref b2, .ref b3, .ref b4, .ref b5, .int 0]))]) [0] rfl
  have hD9 := hD.sub (ws' := [(h0, .inr (2, [.ref b1, .ref b2, .ref b3, .ref b4, .ref b5, .int 0]))]) [0] (by decide) rfl
  refine W.widen (k := 0) (n := 0) (Nat.le_of_ble_eq_true rfl) (Nat.le_of_ble_eq_true rfl) ?_
  exact W.zret (ty := .boolean) (v := 0) hx hb hr (by decide) (fun t ht hW => ⟨⟨0, (), rfl, rfl, by rw [ht]; exact hP9, hD9⟩, hS.F ht⟩) hS.2.2 dX2_has_17

set_option maxHeartbeats 4000000 in
set_option maxRecDepth 100000 in
/-- lengthOf(NONE) -/
theorem c_X3_lengthOf (l : Launch) (dC : Nat → ClassId) (dI : Nat → Nat → Nat) (cI cZ cL : ClassId) (h0 n0 : Nat) (sz : Nat) (p1 p2 b1 b2 b3 b4 b5 : Nat) : Met l yX3_lengthOf (wd yX3_lengthOf cX3_lengthOf 2 (some .int)) ({ frames := 1, cells := 0, slots := 0, locals := 21 }) (va_Pc [.ref h0, .int (-1)] (hp dC dI cI cZ cL sz [(h0, .inr (3, [.ref n0, .ref p1, .ref p2, .int 0, .int (-1), .int 0])), (n0, .inr (2, [.ref b1, .ref b2, .ref b3, .ref b4, .ref b5, .int 0]))])) (va_Qi (fun (r : Int32) (_ : Unit) => r = 0) (fun (_ : Unit) t => va_P (dC, dI) vwCl [(h0, .inr (3, [.ref n0, .ref p1, .ref p2, .int 0, .int (-1), .int 0])), (n0, .inr (2, [.ref b1, .ref b2, .ref b3, .ref b4, .ref b5, .int 0]))] t.heap ∧ va_D (va_A [(h0, .inr (3, [.ref n0, .ref p1, .ref p2, .int 0, .int (-1), .int 0])), (n0, .inr (2, [.ref b1, .ref b2, .ref b3, .ref b4, .ref b5, .int 0]))] sz) [(h0, .inr (3, [.ref n0, .ref p1, .ref p2, .int 0, .int (-1), .int 0])), (n0, .inr (2, [.ref b1, .ref b2, .ref b3, .ref b4, .ref b5, .int 0]))]) (va_A [(h0, .inr (3, [.ref n0, .ref p1, .ref p2, .int 0, .int (-1), .int 0])), (n0, .inr (2, [.ref b1, .ref b2, .ref b3, .ref b4, .ref b5, .int 0]))] sz)) 0 0 (va_A [(h0, .inr (3, [.ref n0, .ref p1, .ref p2, .int 0, .int (-1), .int 0])), (n0, .inr (2, [.ref b1, .ref b2, .ref b3, .ref b4, .ref b5, .int 0]))] sz) := by
  refine Met.ofW (cc := cX3_lengthOf) (maxL := 2) (ret := (some .int)) (by decide) rfl ?_
  intro p e s m args below meth c s₁ B hml hv
  obtain ⟨rfl, hsz, hP, hK, hD0⟩ := hv
  have hx := B.exec
  have hb := B.bytes
  have hr := B.returns
  have hw9 := atoms_spec (ws := (wd yX3_lengthOf cX3_lengthOf 2 (some .int))) B.pre
  have hg := gw_hts hw9
  have hown : s.vm.findClass RX3 = some m.cls := findClass_of_methodNamed B.named
  have hlocks := B.notSynchronized
  subst hsz
  have hD := hD0.self (sz := s.heap.size)
  generalize hAe : va_A [(h0, .inr (3, [.ref n0, .ref p1, .ref p2, .int 0, .int (-1), .int 0])), (n0, .inr (2, [.ref b1, .ref b2, .ref b3, .ref b4, .ref b5, .int 0]))] s.heap.size = A at hD ⊢
  have hA : ∀ q : Nat, s.heap.size ≤ q → A q := fun q h => by rw [← hAe]; exact Or.inr h
  have hS : va_S A s.heap s.heap [] := va_S.rf
  have hl := lv_entry ([.ref h0, .int (-1)]) (n := 2) (Nat.le_of_ble_eq_true rfl)
  rw [lg_entry_eq]
  generalize (lg_sl ([.ref h0, .int (-1)]) ++ List.replicate (2 - (lg_sl ([.ref h0, .int (-1)])).length) Slot.unset).toArray = ls at hl ⊢
  have hl : lv_has ls 2 [(0, .ref h0), (1, .int (-1))] := hl
  refine lv_aload_n hx hb dX3_lengthOf_0 rfl (lv_at hl 0 rfl) ?_
  refine va_get (D := (dC, dI)) (ci := 3) (v := .ref n0) (C := RX3) (T := TX3) (N := 6) hx hb hg i_X3 hown hK hP 0 rfl rfl 0 (by decide) (hg _ k_59) (fun _ h9 => h9) rfl dX3_lengthOf_1 ?_
  refine lv_iload_n hx hb dX3_lengthOf_4 rfl (lv_at hl 1 rfl) ?_
  have hPc := hP.sub (ws' := [(n0, .inr (2, [.ref b1, .ref b2, .ref b3, .ref b4, .ref b5, .int 0]))]) [1] rfl
  have hDc := hD.sub (ws' := [(n0, .inr (2, [.ref b1, .ref b2, .ref b3, .ref b4, .ref b5, .int 0]))]) [1] (by decide) rfl
  have hFc := va_free (wc := [(n0, .inr (2, [.ref b1, .ref b2, .ref b3, .ref b4, .ref b5, .int 0]))]) hD hS hA [1] rfl
  refine va_calli (va_runV (As := [.int (-1)]) (rest := []) ⟨hx, hb, hml, hown, hg⟩ (c_X2_has l dC dI cI cZ cL n0 (Array.size _) b1 b2 b3 b4 b5) (cwV 1 hg (gw_V k_194 k_195 k_196 k_76 g_yX2_has) rfl rfl rfl (by decide +kernel) ⟨(Nat.le_of_ble_eq_true rfl), (Nat.le_of_ble_eq_true rfl)⟩) ⟨hp_bl, va_recv hK hPc (ci := 2) (q0 := 0) rfl rfl, fun U hU hW => hp_ok hU hW hPc hK hDc⟩ rfl rfl hl.1 rfl (lv_room (Nat.le_of_ble_eq_true rfl)) dX3_lengthOf_5 ⟨(Nat.le_of_ble_eq_true rfl), (Nat.le_of_ble_eq_true rfl)⟩) hS (fun q _ h => hFc q h) hFc (fun r9 u t H locs ht hvm hw hB hz1 hk1 hS => ?_)
  obtain ⟨hP1, hD1⟩ := hB
  rw [ht] at hP1
  obtain ⟨hP, hD⟩ := va_join (wr := [(h0, .inr (3, [.ref n0, .ref p1, .ref p2, .int 0, .int (-1), .int 0]))]) (w1 := [(n0, .inr (2, [.ref b1, .ref b2, .ref b3, .ref b4, .ref b5, .int 0]))]) hP hD [1] [0] rfl rfl (by decide) (by decide) hk1 hFc hP1 hD1
  have hP : va_P (dC, dI) vwCl [(h0, .inr (3, [.ref n0, .ref p1, .ref p2, .int 0, .int (-1), .int 0])), (n0, .inr (2, [.ref b1, .ref b2, .ref b3, .ref b4, .ref b5, .int 0]))] H := hP
  have hD : va_D A [(h0, .inr (3, [.ref n0, .ref p1, .ref p2, .int 0, .int (-1), .int 0])), (n0, .inr (2, [.ref b1, .ref b2, .ref b3, .ref b4, .ref b5, .int 0]))] := hD
  refine W.widen (k := 0) (n := 0) (Nat.le_of_ble_eq_true rfl) (Nat.le_of_ble_eq_true rfl) ?_
  obtain rfl : r9 = 0 := hw
  refine lv_if_eq (tgt := 20) hx hb dX3_lengthOf_8 (by decide) (fun _ => ?_) (fun c9 => absurd (by decide) c9)
  refine lv_iconst (v := 0) hx hb dX3_lengthOf_20 (by decide) ?_
  have hP9 := hP.sub (ws' := [(h0, .inr (3, [.ref n0, .ref p1, .ref p2, .int 0, .int (-1), .int 0])), (n0, .inr (2, [.ref b1, .ref b2, .ref b3, .ref b4, .ref b5, .int 0]))]) [0, 1] rfl
  have hD9 := hD.sub (ws' := [(h0, .inr (3, [.ref n0, .ref p1, .ref p2, .int 0, .int (-1), .int 0])), (n0, .inr (2, [.ref b1, .ref b2, .ref b3, .ref b4, .ref b5, .int 0]))]) [0, 1] (by decide) rfl
  refine W.widen (k := 0) (n := 0) (Nat.le_of_ble_eq_true rfl) (Nat.le_of_ble_eq_true rfl) ?_
  exact W.iret (v := 0) hx hb hr (fun t ht hW => ⟨⟨0, (), rfl, rfl, by rw [ht]; exact hP9, hD9⟩, hS.F ht⟩) hS.2.2 dX3_lengthOf_21

set_option maxHeartbeats 4000000 in
set_option maxRecDepth 100000 in
/-- length() of a new printer -/
theorem c_X3_length (l : Launch) (dC : Nat → ClassId) (dI : Nat → Nat → Nat) (cI cZ cL : ClassId) (h0 n0 : Nat) (sz : Nat) (p1 p2 b1 b2 b3 b4 b5 : Nat) : Met l yX3_length (wd yX3_length cX3_length 1 (some .int)) ({ frames := 2, cells := 0, slots := 0, locals := 42 }) (va_Pc [.ref h0] (hp dC dI cI cZ cL sz [(h0, .inr (3, [.ref n0, .ref p1, .ref p2, .int 0, .int (-1), .int 0])), (n0, .inr (2, [.ref b1, .ref b2, .ref b3, .ref b4, .ref b5, .int 0]))])) (va_Qi (fun (r : Int32) (_ : Unit) => r = 0) (fun (_ : Unit) t => va_P (dC, dI) vwCl [(h0, .inr (3, [.ref n0, .ref p1, .ref p2, .int 0, .int (-1), .int 0])), (n0, .inr (2, [.ref b1, .ref b2, .ref b3, .ref b4, .ref b5, .int 0]))] t.heap ∧ va_D (va_A [(h0, .inr (3, [.ref n0, .ref p1, .ref p2, .int 0, .int (-1), .int 0])), (n0, .inr (2, [.ref b1, .ref b2, .ref b3, .ref b4, .ref b5, .int 0]))] sz) [(h0, .inr (3, [.ref n0, .ref p1, .ref p2, .int 0, .int (-1), .int 0])), (n0, .inr (2, [.ref b1, .ref b2, .ref b3, .ref b4, .ref b5, .int 0]))]) (va_A [(h0, .inr (3, [.ref n0, .ref p1, .ref p2, .int 0, .int (-1), .int 0])), (n0, .inr (2, [.ref b1, .ref b2, .ref b3, .ref b4, .ref b5, .int 0]))] sz)) 0 0 (va_A [(h0, .inr (3, [.ref n0, .ref p1, .ref p2, .int 0, .int (-1), .int 0])), (n0, .inr (2, [.ref b1, .ref b2, .ref b3, .ref b4, .ref b5, .int 0]))] sz) := by
  refine Met.ofW (cc := cX3_length) (maxL := 1) (ret := (some .int)) (by decide) rfl ?_
  intro p e s m args below meth c s₁ B hml hv
  obtain ⟨rfl, hsz, hP, hK, hD0⟩ := hv
  have hx := B.exec
  have hb := B.bytes
  have hr := B.returns
  have hw9 := atoms_spec (ws := (wd yX3_length cX3_length 1 (some .int))) B.pre
  have hg := gw_hts hw9
  have hown : s.vm.findClass RX3 = some m.cls := findClass_of_methodNamed B.named
  have hlocks := B.notSynchronized
  subst hsz
  have hD := hD0.self (sz := s.heap.size)
  generalize hAe : va_A [(h0, .inr (3, [.ref n0, .ref p1, .ref p2, .int 0, .int (-1), .int 0])), (n0, .inr (2, [.ref b1, .ref b2, .ref b3, .ref b4, .ref b5, .int 0]))] s.heap.size = A at hD ⊢
  have hA : ∀ q : Nat, s.heap.size ≤ q → A q := fun q h => by rw [← hAe]; exact Or.inr h
  have hS : va_S A s.heap s.heap [] := va_S.rf
  have hl := lv_entry ([.ref h0]) (n := 1) (Nat.le_of_ble_eq_true rfl)
  rw [lg_entry_eq]
  generalize (lg_sl ([.ref h0]) ++ List.replicate (1 - (lg_sl ([.ref h0])).length) Slot.unset).toArray = ls at hl ⊢
  have hl : lv_has ls 1 [(0, .ref h0)] := hl
  refine lv_aload_n hx hb dX3_length_0 rfl (lv_at hl 0 rfl) ?_
  refine lv_aload_n hx hb dX3_length_1 rfl (lv_at hl 0 rfl) ?_
  refine va_get (D := (dC, dI)) (ci := 3) (v := .int (-1)) (C := RX3) (T := TX3) (N := 6) hx hb hg i_X3 hown hK hP 0 rfl rfl 4 (by decide) (hg _ k_57) (fun _ h9 => h9) rfl dX3_length_2 ?_
  have hPc := hP.sub (ws' := [(h0, .inr (3, [.ref n0, .ref p1, .ref p2, .int 0, .int (-1), .int 0])), (n0, .inr (2, [.ref b1, .ref b2, .ref b3, .ref b4, .ref b5, .int 0]))]) [0, 1] rfl
  have hDc := hD.sub (ws' := [(h0, .inr (3, [.ref n0, .ref p1, .ref p2, .int 0, .int (-1), .int 0])), (n0, .inr (2, [.ref b1, .ref b2, .ref b3, .ref b4, .ref b5, .int 0]))]) [0, 1] (by decide) rfl
  have hFc := va_free (wc := [(h0, .inr (3, [.ref n0, .ref p1, .ref p2, .int 0, .int (-1), .int 0])), (n0, .inr (2, [.ref b1, .ref b2, .ref b3, .ref b4, .ref b5, .int 0]))]) hD hS hA [0, 1] rfl
  refine va_calli (va_runV (As := [.int (-1)]) (rest := []) ⟨hx, hb, hml, hown, hg⟩ (c_X3_lengthOf l dC dI cI cZ cL h0 n0 (Array.size _) p1 p2 b1 b2 b3 b4 b5) (cwV 1 hg (gw_V k_197 k_198 k_199 k_93 g_yX3_lengthOf) rfl rfl rfl (by decide +kernel) ⟨(Nat.le_of_ble_eq_true rfl), (Nat.le_of_ble_eq_true rfl)⟩) ⟨hp_bl, va_recv hK hPc (ci := 3) (q0 := 0) rfl rfl, fun U hU hW => hp_ok hU hW hPc hK hDc⟩ rfl rfl hl.1 rfl (lv_room (Nat.le_of_ble_eq_true rfl)) dX3_length_5 ⟨(Nat.le_of_ble_eq_true rfl), (Nat.le_of_ble_eq_true rfl)⟩) hS (fun q _ h => hFc q h) hFc (fun r9 u t H locs ht hvm hw hB hz1 hk1 hS => ?_)
  obtain ⟨hP1, hD1⟩ := hB
  rw [ht] at hP1
  obtain ⟨hP, hD⟩ := va_join (wr := []) (w1 := [(h0, .inr (3, [.ref n0, .ref p1, .ref p2, .int 0, .int (-1), .int 0])), (n0, .inr (2, [.ref b1, .ref b2, .ref b3, .ref b4, .ref b5, .int 0]))]) hP hD [0, 1] [] rfl rfl (by decide) (by decide) hk1 hFc hP1 hD1
  have hP : va_P (dC, dI) vwCl [(h0, .inr (3, [.ref n0, .ref p1, .ref p2, .int 0, .int (-1), .int 0])), (n0, .inr (2, [.ref b1, .ref b2, .ref b3, .ref b4, .ref b5, .int 0]))] H := hP
  have hD : va_D A [(h0, .inr (3, [.ref n0, .ref p1, .ref p2, .int 0, .int (-1), .int 0])), (n0, .inr (2, [.ref b1, .ref b2, .ref b3, .ref b4, .ref b5, .int 0]))] := hD
  refine W.widen (k := 0) (n := 0) (Nat.le_of_ble_eq_true rfl) (Nat.le_of_ble_eq_true rfl) ?_
  obtain rfl : r9 = 0 := hw
  have hP9 := hP.sub (ws' := [(h0, .inr (3, [.ref n0, .ref p1, .ref p2, .int 0, .int (-1), .int 0])), (n0, .inr (2, [.ref b1, .ref b2, .ref b3, .ref b4, .ref b5, .int 0]))]) [0, 1] rfl
  have hD9 := hD.sub (ws' := [(h0, .inr (3, [.ref n0, .ref p1, .ref p2, .int 0, .int (-1), .int 0])), (n0, .inr (2, [.ref b1, .ref b2, .ref b3, .ref b4, .ref b5, .int 0]))]) [0, 1] (by decide) rfl
  refine W.widen (k := 0) (n := 0) (Nat.le_of_ble_eq_true rfl) (Nat.le_of_ble_eq_true rfl) ?_
  exact W.iret (v := 0) hx hb hr (fun t ht hW => ⟨⟨0, (), rfl, rfl, by rw [ht]; exact hP9, hD9⟩, hS.F ht⟩) hS.2.2 dX3_length_8

set_option maxHeartbeats 4000000 in
set_option maxRecDepth 100000 in
/-- size() of a new object -/
theorem c_X6_size (l : Launch) (dC : Nat → ClassId) (dI : Nat → Nat → Nat) (cI cZ cL : ClassId) (h0 p0 n0 : Nat) (sz : Nat) (r0 j0 a1 p1 p2 b1 b2 b3 b4 b5 : Nat) : Met l yX6_size (wd yX6_size cX6_size 1 (some .int)) ({ frames := 3, cells := 0, slots := 0, locals := 62 }) (va_Pc [.ref h0] (hp dC dI cI cZ cL sz [(h0, .inr (6, [.ref a1, .int 0, .int (-1), .ref n0, .ref r0, .ref j0, .ref p0])), (p0, .inr (3, [.ref n0, .ref p1, .ref p2, .int 0, .int (-1), .int 0])), (n0, .inr (2, [.ref b1, .ref b2, .ref b3, .ref b4, .ref b5, .int 0]))])) (va_Qi (fun (r : Int32) (_ : Unit) => r = 0) (fun (_ : Unit) t => va_P (dC, dI) vwCl [] t.heap ∧ va_D (va_A [(h0, .inr (6, [.ref a1, .int 0, .int (-1), .ref n0, .ref r0, .ref j0, .ref p0])), (p0, .inr (3, [.ref n0, .ref p1, .ref p2, .int 0, .int (-1), .int 0])), (n0, .inr (2, [.ref b1, .ref b2, .ref b3, .ref b4, .ref b5, .int 0]))] sz) []) (va_A [(h0, .inr (6, [.ref a1, .int 0, .int (-1), .ref n0, .ref r0, .ref j0, .ref p0])), (p0, .inr (3, [.ref n0, .ref p1, .ref p2, .int 0, .int (-1), .int 0])), (n0, .inr (2, [.ref b1, .ref b2, .ref b3, .ref b4, .ref b5, .int 0]))] sz)) 0 0 (va_A [(h0, .inr (6, [.ref a1, .int 0, .int (-1), .ref n0, .ref r0, .ref j0, .ref p0])), (p0, .inr (3, [.ref n0, .ref p1, .ref p2, .int 0, .int (-1), .int 0])), (n0, .inr (2, [.ref b1, .ref b2, .ref b3, .ref b4, .ref b5, .int 0]))] sz) := by
  refine Met.ofW (cc := cX6_size) (maxL := 1) (ret := (some .int)) (by decide) rfl ?_
  intro p e s m args below meth c s₁ B hml hv
  obtain ⟨rfl, hsz, hP, hK, hD0⟩ := hv
  have hx := B.exec
  have hb := B.bytes
  have hr := B.returns
  have hw9 := atoms_spec (ws := (wd yX6_size cX6_size 1 (some .int))) B.pre
  have hg := gw_hts hw9
  have hown : s.vm.findClass RX6 = some m.cls := findClass_of_methodNamed B.named
  have hlocks := B.notSynchronized
  subst hsz
  have hD := hD0.self (sz := s.heap.size)
  generalize hAe : va_A [(h0, .inr (6, [.ref a1, .int 0, .int (-1), .ref n0, .ref r0, .ref j0, .ref p0])), (p0, .inr (3, [.ref n0, .ref p1, .ref p2, .int 0, .int (-1), .int 0])), (n0, .inr (2, [.ref b1, .ref b2, .ref b3, .ref b4, .ref b5, .int 0]))] s.heap.size = A at hD ⊢
  have hA : ∀ q : Nat, s.heap.size ≤ q → A q := fun q h => by rw [← hAe]; exact Or.inr h
  have hS : va_S A s.heap s.heap [] := va_S.rf
  have hl := lv_entry ([.ref h0]) (n := 1) (Nat.le_of_ble_eq_true rfl)
  rw [lg_entry_eq]
  generalize (lg_sl ([.ref h0]) ++ List.replicate (1 - (lg_sl ([.ref h0])).length) Slot.unset).toArray = ls at hl ⊢
  have hl : lv_has ls 1 [(0, .ref h0)] := hl
  refine lv_aload_n hx hb dX6_size_0 rfl (lv_at hl 0 rfl) ?_
  refine va_get (D := (dC, dI)) (ci := 6) (v := .ref p0) (C := RX6) (T := TX6) (N := 7) hx hb hg i_X6 hown hK hP 0 rfl rfl 6 (by decide) (hg _ k_96) (fun _ h9 => h9) rfl dX6_size_1 ?_
  have hPc := hP.sub (ws' := [(p0, .inr (3, [.ref n0, .ref p1, .ref p2, .int 0, .int (-1), .int 0])), (n0, .inr (2, [.ref b1, .ref b2, .ref b3, .ref b4, .ref b5, .int 0]))]) [1, 2] rfl
  have hDc := hD.sub (ws' := [(p0, .inr (3, [.ref n0, .ref p1, .ref p2, .int 0, .int (-1), .int 0])), (n0, .inr (2, [.ref b1, .ref b2, .ref b3, .ref b4, .ref b5, .int 0]))]) [1, 2] (by decide) rfl
  have hFc := va_free (wc := [(p0, .inr (3, [.ref n0, .ref p1, .ref p2, .int 0, .int (-1), .int 0])), (n0, .inr (2, [.ref b1, .ref b2, .ref b3, .ref b4, .ref b5, .int 0]))]) hD hS hA [1, 2] rfl
  refine va_calli (va_runV (As := []) (rest := []) ⟨hx, hb, hml, hown, hg⟩ (c_X3_length l dC dI cI cZ cL p0 n0 (Array.size _) p1 p2 b1 b2 b3 b4 b5) (cwV 0 hg (gw_V k_200 k_201 k_202 k_93 g_yX3_length) rfl rfl rfl (by decide +kernel) ⟨(Nat.le_of_ble_eq_true rfl), (Nat.le_of_ble_eq_true rfl)⟩) ⟨hp_bl, va_recv hK hPc (ci := 3) (q0 := 0) rfl rfl, fun U hU hW => hp_ok hU hW hPc hK hDc⟩ rfl rfl hl.1 rfl (lv_room (Nat.le_of_ble_eq_true rfl)) dX6_size_4 ⟨(Nat.le_of_ble_eq_true rfl), (Nat.le_of_ble_eq_true rfl)⟩) hS (fun q _ h => hFc q h) hFc (fun r9 u t H locs ht hvm hw hB hz1 hk1 hS => ?_)
  obtain ⟨hP1, hD1⟩ := hB
  rw [ht] at hP1
  obtain ⟨hP, hD⟩ := va_join (wr := [(h0, .inr (6, [.ref a1, .int 0, .int (-1), .ref n0, .ref r0, .ref j0, .ref p0]))]) (w1 := [(p0, .inr (3, [.ref n0, .ref p1, .ref p2, .int 0, .int (-1), .int 0])), (n0, .inr (2, [.ref b1, .ref b2, .ref b3, .ref b4, .ref b5, .int 0]))]) hP hD [1, 2] [0] rfl rfl (by decide) (by decide) hk1 hFc hP1 hD1
  have hP : va_P (dC, dI) vwCl [(h0, .inr (6, [.ref a1, .int 0, .int (-1), .ref n0, .ref r0, .ref j0, .ref p0])), (p0, .inr (3, [.ref n0, .ref p1, .ref p2, .int 0, .int (-1), .int 0])), (n0, .inr (2, [.ref b1, .ref b2, .ref b3, .ref b4, .ref b5, .int 0]))] H := hP
  have hD : va_D A [(h0, .inr (6, [.ref a1, .int 0, .int (-1), .ref n0, .ref r0, .ref j0, .ref p0])), (p0, .inr (3, [.ref n0, .ref p1, .ref p2, .int 0, .int (-1), .int 0])), (n0, .inr (2, [.ref b1, .ref b2, .ref b3, .ref b4, .ref b5, .int 0]))] := hD
  refine W.widen (k := 0) (n := 0) (Nat.le_of_ble_eq_true rfl) (Nat.le_of_ble_eq_true rfl) ?_
  obtain rfl : r9 = 0 := hw
  have hP9 := hP.sub (ws' := []) [] rfl
  have hD9 := hD.sub (ws' := []) [] (by decide) rfl
  refine W.widen (k := 0) (n := 0) (Nat.le_of_ble_eq_true rfl) (Nat.le_of_ble_eq_true rfl) ?_
  exact W.iret (v := 0) hx hb hr (fun t ht hW => ⟨⟨0, (), rfl, rfl, by rw [ht]; exact hP9, hD9⟩, hS.F ht⟩) hS.2.2 dX6_size_7

set_option maxHeartbeats 4000000 in
set_option maxRecDepth 100000 in
/-- madeUnknowns() -/
theorem c_X1_madeUnknowns (l : Launch) (dC : Nat → ClassId) (dI : Nat → Nat → Nat) (cI cZ cL : ClassId) (h0 : Nat) (sz : Nat) (n0 x0 j2 j3 j4 j5 : Nat) : Met l yX1_madeUnknowns (wd yX1_madeUnknowns cX1_madeUnknowns 1 (some .int)) ({ frames := 0, cells := 0, slots := 0, locals := 0 }) (va_Pc [.ref h0] (hp dC dI cI cZ cL sz [(h0, .inr (1, [.ref n0, .ref x0, .ref j2, .ref j3, .ref j4, .ref j5, .int 0, .int 0, .int (-1), .int 0, .int 0]))])) (va_Qi (fun (r : Int32) (_ : Unit) => r = 0) (fun (_ : Unit) t => va_P (dC, dI) vwCl [] t.heap ∧ va_D (va_A [(h0, .inr (1, [.ref n0, .ref x0, .ref j2, .ref j3, .ref j4, .ref j5, .int 0, .int 0, .int (-1), .int 0, .int 0]))] sz) []) (va_A [(h0, .inr (1, [.ref n0, .ref x0, .ref j2, .ref j3, .ref j4, .ref j5, .int 0, .int 0, .int (-1), .int 0, .int 0]))] sz)) 0 0 (va_A [(h0, .inr (1, [.ref n0, .ref x0, .ref j2, .ref j3, .ref j4, .ref j5, .int 0, .int 0, .int (-1), .int 0, .int 0]))] sz) := by
  refine Met.ofW (cc := cX1_madeUnknowns) (maxL := 1) (ret := (some .int)) (by decide) rfl ?_
  intro p e s m args below meth c s₁ B hml hv
  obtain ⟨rfl, hsz, hP, hK, hD0⟩ := hv
  have hx := B.exec
  have hb := B.bytes
  have hr := B.returns
  have hw9 := atoms_spec (ws := (wd yX1_madeUnknowns cX1_madeUnknowns 1 (some .int))) B.pre
  have hg := gw_hts hw9
  have hown : s.vm.findClass RX1 = some m.cls := findClass_of_methodNamed B.named
  have hlocks := B.notSynchronized
  subst hsz
  have hD := hD0.self (sz := s.heap.size)
  generalize hAe : va_A [(h0, .inr (1, [.ref n0, .ref x0, .ref j2, .ref j3, .ref j4, .ref j5, .int 0, .int 0, .int (-1), .int 0, .int 0]))] s.heap.size = A at hD ⊢
  have hA : ∀ q : Nat, s.heap.size ≤ q → A q := fun q h => by rw [← hAe]; exact Or.inr h
  have hS : va_S A s.heap s.heap [] := va_S.rf
  have hl := lv_entry ([.ref h0]) (n := 1) (Nat.le_of_ble_eq_true rfl)
  rw [lg_entry_eq]
  generalize (lg_sl ([.ref h0]) ++ List.replicate (1 - (lg_sl ([.ref h0])).length) Slot.unset).toArray = ls at hl ⊢
  have hl : lv_has ls 1 [(0, .ref h0)] := hl
  refine lv_aload_n hx hb dX1_madeUnknowns_0 rfl (lv_at hl 0 rfl) ?_
  refine va_get (D := (dC, dI)) (ci := 1) (v := .int 0) (C := RX1) (T := TX1) (N := 11) hx hb hg i_X1 hown hK hP 0 rfl rfl 9 (by decide) (hg _ k_30) (fun _ h9 => h9) rfl dX1_madeUnknowns_1 ?_
  have hP9 := hP.sub (ws' := []) [] rfl
  have hD9 := hD.sub (ws' := []) [] (by decide) rfl
  refine W.widen (k := 0) (n := 0) (Nat.le_of_ble_eq_true rfl) (Nat.le_of_ble_eq_true rfl) ?_
  exact W.iret (v := 0) hx hb hr (fun t ht hW => ⟨⟨0, (), rfl, rfl, by rw [ht]; exact hP9, hD9⟩, hS.F ht⟩) hS.2.2 dX1_madeUnknowns_4

set_option maxHeartbeats 4000000 in
set_option maxRecDepth 100000 in
/-- solvedUnknowns() -/
theorem c_X1_solvedUnknowns (l : Launch) (dC : Nat → ClassId) (dI : Nat → Nat → Nat) (cI cZ cL : ClassId) (h0 : Nat) (sz : Nat) (n0 x0 j2 j3 j4 j5 : Nat) : Met l yX1_solvedUnknowns (wd yX1_solvedUnknowns cX1_solvedUnknowns 1 (some .int)) ({ frames := 0, cells := 0, slots := 0, locals := 0 }) (va_Pc [.ref h0] (hp dC dI cI cZ cL sz [(h0, .inr (1, [.ref n0, .ref x0, .ref j2, .ref j3, .ref j4, .ref j5, .int 0, .int 0, .int (-1), .int 0, .int 0]))])) (va_Qi (fun (r : Int32) (_ : Unit) => r = 0) (fun (_ : Unit) t => va_P (dC, dI) vwCl [] t.heap ∧ va_D (va_A [(h0, .inr (1, [.ref n0, .ref x0, .ref j2, .ref j3, .ref j4, .ref j5, .int 0, .int 0, .int (-1), .int 0, .int 0]))] sz) []) (va_A [(h0, .inr (1, [.ref n0, .ref x0, .ref j2, .ref j3, .ref j4, .ref j5, .int 0, .int 0, .int (-1), .int 0, .int 0]))] sz)) 0 0 (va_A [(h0, .inr (1, [.ref n0, .ref x0, .ref j2, .ref j3, .ref j4, .ref j5, .int 0, .int 0, .int (-1), .int 0, .int 0]))] sz) := by
  refine Met.ofW (cc := cX1_solvedUnknowns) (maxL := 1) (ret := (some .int)) (by decide) rfl ?_
  intro p e s m args below meth c s₁ B hml hv
  obtain ⟨rfl, hsz, hP, hK, hD0⟩ := hv
  have hx := B.exec
  have hb := B.bytes
  have hr := B.returns
  have hw9 := atoms_spec (ws := (wd yX1_solvedUnknowns cX1_solvedUnknowns 1 (some .int))) B.pre
  have hg := gw_hts hw9
  have hown : s.vm.findClass RX1 = some m.cls := findClass_of_methodNamed B.named
  have hlocks := B.notSynchronized
  subst hsz
  have hD := hD0.self (sz := s.heap.size)
  generalize hAe : va_A [(h0, .inr (1, [.ref n0, .ref x0, .ref j2, .ref j3, .ref j4, .ref j5, .int 0, .int 0, .int (-1), .int 0, .int 0]))] s.heap.size = A at hD ⊢
  have hA : ∀ q : Nat, s.heap.size ≤ q → A q := fun q h => by rw [← hAe]; exact Or.inr h
  have hS : va_S A s.heap s.heap [] := va_S.rf
  have hl := lv_entry ([.ref h0]) (n := 1) (Nat.le_of_ble_eq_true rfl)
  rw [lg_entry_eq]
  generalize (lg_sl ([.ref h0]) ++ List.replicate (1 - (lg_sl ([.ref h0])).length) Slot.unset).toArray = ls at hl ⊢
  have hl : lv_has ls 1 [(0, .ref h0)] := hl
  refine lv_aload_n hx hb dX1_solvedUnknowns_0 rfl (lv_at hl 0 rfl) ?_
  refine va_get (D := (dC, dI)) (ci := 1) (v := .int 0) (C := RX1) (T := TX1) (N := 11) hx hb hg i_X1 hown hK hP 0 rfl rfl 10 (by decide) (hg _ k_31) (fun _ h9 => h9) rfl dX1_solvedUnknowns_1 ?_
  have hP9 := hP.sub (ws' := []) [] rfl
  have hD9 := hD.sub (ws' := []) [] (by decide) rfl
  refine W.widen (k := 0) (n := 0) (Nat.le_of_ble_eq_true rfl) (Nat.le_of_ble_eq_true rfl) ?_
  exact W.iret (v := 0) hx hb hr (fun t ht hW => ⟨⟨0, (), rfl, rfl, by rw [ht]; exact hP9, hD9⟩, hS.F ht⟩) hS.2.2 dX1_solvedUnknowns_4

set_option maxHeartbeats 4000000 in
set_option maxRecDepth 100000 in
/-- unknowns() of a new object -/
theorem c_X6_unknowns (l : Launch) (dC : Nat → ClassId) (dI : Nat → Nat → Nat) (cI cZ cL : ClassId) (h0 j0 : Nat) (sz : Nat) (n0 r0 p0 a1 x0 j2 j3 j4 j5 : Nat) : Met l yX6_unknowns (wd yX6_unknowns cX6_unknowns 1 (some .int)) ({ frames := 1, cells := 0, slots := 0, locals := 20 }) (va_Pc [.ref h0] (hp dC dI cI cZ cL sz [(h0, .inr (6, [.ref a1, .int 0, .int (-1), .ref n0, .ref r0, .ref j0, .ref p0])), (j0, .inr (1, [.ref n0, .ref x0, .ref j2, .ref j3, .ref j4, .ref j5, .int 0, .int 0, .int (-1), .int 0, .int 0]))])) (va_Qi (fun (r : Int32) (_ : Unit) => r = 0) (fun (_ : Unit) t => va_P (dC, dI) vwCl [] t.heap ∧ va_D (va_A [(h0, .inr (6, [.ref a1, .int 0, .int (-1), .ref n0, .ref r0, .ref j0, .ref p0])), (j0, .inr (1, [.ref n0, .ref x0, .ref j2, .ref j3, .ref j4, .ref j5, .int 0, .int 0, .int (-1), .int 0, .int 0]))] sz) []) (va_A [(h0, .inr (6, [.ref a1, .int 0, .int (-1), .ref n0, .ref r0, .ref j0, .ref p0])), (j0, .inr (1, [.ref n0, .ref x0, .ref j2, .ref j3, .ref j4, .ref j5, .int 0, .int 0, .int (-1), .int 0, .int 0]))] sz)) 0 0 (va_A [(h0, .inr (6, [.ref a1, .int 0, .int (-1), .ref n0, .ref r0, .ref j0, .ref p0])), (j0, .inr (1, [.ref n0, .ref x0, .ref j2, .ref j3, .ref j4, .ref j5, .int 0, .int 0, .int (-1), .int 0, .int 0]))] sz) := by
  refine Met.ofW (cc := cX6_unknowns) (maxL := 1) (ret := (some .int)) (by decide) rfl ?_
  intro p e s m args below meth c s₁ B hml hv
  obtain ⟨rfl, hsz, hP, hK, hD0⟩ := hv
  have hx := B.exec
  have hb := B.bytes
  have hr := B.returns
  have hw9 := atoms_spec (ws := (wd yX6_unknowns cX6_unknowns 1 (some .int))) B.pre
  have hg := gw_hts hw9
  have hown : s.vm.findClass RX6 = some m.cls := findClass_of_methodNamed B.named
  have hlocks := B.notSynchronized
  subst hsz
  have hD := hD0.self (sz := s.heap.size)
  generalize hAe : va_A [(h0, .inr (6, [.ref a1, .int 0, .int (-1), .ref n0, .ref r0, .ref j0, .ref p0])), (j0, .inr (1, [.ref n0, .ref x0, .ref j2, .ref j3, .ref j4, .ref j5, .int 0, .int 0, .int (-1), .int 0, .int 0]))] s.heap.size = A at hD ⊢
  have hA : ∀ q : Nat, s.heap.size ≤ q → A q := fun q h => by rw [← hAe]; exact Or.inr h
  have hS : va_S A s.heap s.heap [] := va_S.rf
  have hl := lv_entry ([.ref h0]) (n := 1) (Nat.le_of_ble_eq_true rfl)
  rw [lg_entry_eq]
  generalize (lg_sl ([.ref h0]) ++ List.replicate (1 - (lg_sl ([.ref h0])).length) Slot.unset).toArray = ls at hl ⊢
  have hl : lv_has ls 1 [(0, .ref h0)] := hl
  refine lv_aload_n hx hb dX6_unknowns_0 rfl (lv_at hl 0 rfl) ?_
  refine va_get (D := (dC, dI)) (ci := 6) (v := .ref j0) (C := RX6) (T := TX6) (N := 7) hx hb hg i_X6 hown hK hP 0 rfl rfl 5 (by decide) (hg _ k_90) (fun _ h9 => h9) rfl dX6_unknowns_1 ?_
  have hPc := hP.sub (ws' := [(j0, .inr (1, [.ref n0, .ref x0, .ref j2, .ref j3, .ref j4, .ref j5, .int 0, .int 0, .int (-1), .int 0, .int 0]))]) [1] rfl
  have hDc := hD.sub (ws' := [(j0, .inr (1, [.ref n0, .ref x0, .ref j2, .ref j3, .ref j4, .ref j5, .int 0, .int 0, .int (-1), .int 0, .int 0]))]) [1] (by decide) rfl
  have hFc := va_free (wc := [(j0, .inr (1, [.ref n0, .ref x0, .ref j2, .ref j3, .ref j4, .ref j5, .int 0, .int 0, .int (-1), .int 0, .int 0]))]) hD hS hA [1] rfl
  refine va_calli (va_runV (As := []) (rest := []) ⟨hx, hb, hml, hown, hg⟩ (c_X1_madeUnknowns l dC dI cI cZ cL j0 (Array.size _) n0 x0 j2 j3 j4 j5) (cwV 0 hg (gw_V k_203 k_204 k_205 k_87 g_yX1_madeUnknowns) rfl rfl rfl (by decide +kernel) ⟨(Nat.le_of_ble_eq_true rfl), (Nat.le_of_ble_eq_true rfl)⟩) ⟨hp_bl, va_recv hK hPc (ci := 1) (q0 := 0) rfl rfl, fun U hU hW => hp_ok hU hW hPc hK hDc⟩ rfl rfl hl.1 rfl (lv_room (Nat.le_of_ble_eq_true rfl)) dX6_unknowns_4 ⟨(Nat.le_of_ble_eq_true rfl), (Nat.le_of_ble_eq_true rfl)⟩) hS (fun q _ h => hFc q h) hFc (fun r9 u t H locs ht hvm hw hB hz1 hk1 hS => ?_)
  obtain ⟨hP1, hD1⟩ := hB
  rw [ht] at hP1
  obtain ⟨hP, hD⟩ := va_join (wr := [(h0, .inr (6, [.ref a1, .int 0, .int (-1), .ref n0, .ref r0, .ref j0, .ref p0]))]) (w1 := []) hP hD [1] [0] rfl rfl (by decide) (by decide) hk1 hFc hP1 hD1
  have hP : va_P (dC, dI) vwCl [(h0, .inr (6, [.ref a1, .int 0, .int (-1), .ref n0, .ref r0, .ref j0, .ref p0]))] H := hP
  have hD : va_D A [(h0, .inr (6, [.ref a1, .int 0, .int (-1), .ref n0, .ref r0, .ref j0, .ref p0]))] := hD
  refine W.widen (k := 0) (n := 0) (Nat.le_of_ble_eq_true rfl) (Nat.le_of_ble_eq_true rfl) ?_
  obtain rfl : r9 = 0 := hw
  have hP9 := hP.sub (ws' := []) [] rfl
  have hD9 := hD.sub (ws' := []) [] (by decide) rfl
  refine W.widen (k := 0) (n := 0) (Nat.le_of_ble_eq_true rfl) (Nat.le_of_ble_eq_true rfl) ?_
  exact W.iret (v := 0) hx hb hr (fun t ht hW => ⟨⟨0, (), rfl, rfl, by rw [ht]; exact hP9, hD9⟩, hS.F ht⟩) hS.2.2 dX6_unknowns_7

set_option maxHeartbeats 4000000 in
set_option maxRecDepth 100000 in
/-- solved() of a new object -/
theorem c_X6_solved (l : Launch) (dC : Nat → ClassId) (dI : Nat → Nat → Nat) (cI cZ cL : ClassId) (h0 j0 : Nat) (sz : Nat) (n0 r0 p0 a1 x0 j2 j3 j4 j5 : Nat) : Met l yX6_solved (wd yX6_solved cX6_solved 1 (some .int)) ({ frames := 1, cells := 0, slots := 0, locals := 20 }) (va_Pc [.ref h0] (hp dC dI cI cZ cL sz [(h0, .inr (6, [.ref a1, .int 0, .int (-1), .ref n0, .ref r0, .ref j0, .ref p0])), (j0, .inr (1, [.ref n0, .ref x0, .ref j2, .ref j3, .ref j4, .ref j5, .int 0, .int 0, .int (-1), .int 0, .int 0]))])) (va_Qi (fun (r : Int32) (_ : Unit) => r = 0) (fun (_ : Unit) t => va_P (dC, dI) vwCl [] t.heap ∧ va_D (va_A [(h0, .inr (6, [.ref a1, .int 0, .int (-1), .ref n0, .ref r0, .ref j0, .ref p0])), (j0, .inr (1, [.ref n0, .ref x0, .ref j2, .ref j3, .ref j4, .ref j5, .int 0, .int 0, .int (-1), .int 0, .int 0]))] sz) []) (va_A [(h0, .inr (6, [.ref a1, .int 0, .int (-1), .ref n0, .ref r0, .ref j0, .ref p0])), (j0, .inr (1, [.ref n0, .ref x0, .ref j2, .ref j3, .ref j4, .ref j5, .int 0, .int 0, .int (-1), .int 0, .int 0]))] sz)) 0 0 (va_A [(h0, .inr (6, [.ref a1, .int 0, .int (-1), .ref n0, .ref r0, .ref j0, .ref p0])), (j0, .inr (1, [.ref n0, .ref x0, .ref j2, .ref j3, .ref j4, .ref j5, .int 0, .int 0, .int (-1), .int 0, .int 0]))] sz) := by
  refine Met.ofW (cc := cX6_solved) (maxL := 1) (ret := (some .int)) (by decide) rfl ?_
  intro p e s m args below meth c s₁ B hml hv
  obtain ⟨rfl, hsz, hP, hK, hD0⟩ := hv
  have hx := B.exec
  have hb := B.bytes
  have hr := B.returns
  have hw9 := atoms_spec (ws := (wd yX6_solved cX6_solved 1 (some .int))) B.pre
  have hg := gw_hts hw9
  have hown : s.vm.findClass RX6 = some m.cls := findClass_of_methodNamed B.named
  have hlocks := B.notSynchronized
  subst hsz
  have hD := hD0.self (sz := s.heap.size)
  generalize hAe : va_A [(h0, .inr (6, [.ref a1, .int 0, .int (-1), .ref n0, .ref r0, .ref j0, .ref p0])), (j0, .inr (1, [.ref n0, .ref x0, .ref j2, .ref j3, .ref j4, .ref j5, .int 0, .int 0, .int (-1), .int 0, .int 0]))] s.heap.size = A at hD ⊢
  have hA : ∀ q : Nat, s.heap.size ≤ q → A q := fun q h => by rw [← hAe]; exact Or.inr h
  have hS : va_S A s.heap s.heap [] := va_S.rf
  have hl := lv_entry ([.ref h0]) (n := 1) (Nat.le_of_ble_eq_true rfl)
  rw [lg_entry_eq]
  generalize (lg_sl ([.ref h0]) ++ List.replicate (1 - (lg_sl ([.ref h0])).length) Slot.unset).toArray = ls at hl ⊢
  have hl : lv_has ls 1 [(0, .ref h0)] := hl
  refine lv_aload_n hx hb dX6_solved_0 rfl (lv_at hl 0 rfl) ?_
  refine va_get (D := (dC, dI)) (ci := 6) (v := .ref j0) (C := RX6) (T := TX6) (N := 7) hx hb hg i_X6 hown hK hP 0 rfl rfl 5 (by decide) (hg _ k_90) (fun _ h9 => h9) rfl dX6_solved_1 ?_
  have hPc := hP.sub (ws' := [(j0, .inr (1, [.ref n0, .ref x0, .ref j2, .ref j3, .ref j4, .ref j5, .int 0, .int 0, .int (-1), .int 0, .int 0]))]) [1] rfl
  have hDc := hD.sub (ws' := [(j0, .inr (1, [.ref n0, .ref x0, .ref j2, .ref j3, .ref j4, .ref j5, .int 0, .int 0, .int (-1), .int 0, .int 0]))]) [1] (by decide) rfl
  have hFc := va_free (wc := [(j0, .inr (1, [.ref n0, .ref x0, .ref j2, .ref j3, .ref j4, .ref j5, .int 0, .int 0, .int (-1), .int 0, .int 0]))]) hD hS hA [1] rfl
  refine va_calli (va_runV (As := []) (rest := []) ⟨hx, hb, hml, hown, hg⟩ (c_X1_solvedUnknowns l dC dI cI cZ cL j0 (Array.size _) n0 x0 j2 j3 j4 j5) (cwV 0 hg (gw_V k_206 k_207 k_208 k_87 g_yX1_solvedUnknowns) rfl rfl rfl (by decide +kernel) ⟨(Nat.le_of_ble_eq_true rfl), (Nat.le_of_ble_eq_true rfl)⟩) ⟨hp_bl, va_recv hK hPc (ci := 1) (q0 := 0) rfl rfl, fun U hU hW => hp_ok hU hW hPc hK hDc⟩ rfl rfl hl.1 rfl (lv_room (Nat.le_of_ble_eq_true rfl)) dX6_solved_4 ⟨(Nat.le_of_ble_eq_true rfl), (Nat.le_of_ble_eq_true rfl)⟩) hS (fun q _ h => hFc q h) hFc (fun r9 u t H locs ht hvm hw hB hz1 hk1 hS => ?_)
  obtain ⟨hP1, hD1⟩ := hB
  rw [ht] at hP1
  obtain ⟨hP, hD⟩ := va_join (wr := [(h0, .inr (6, [.ref a1, .int 0, .int (-1), .ref n0, .ref r0, .ref j0, .ref p0]))]) (w1 := []) hP hD [1] [0] rfl rfl (by decide) (by decide) hk1 hFc hP1 hD1
  have hP : va_P (dC, dI) vwCl [(h0, .inr (6, [.ref a1, .int 0, .int (-1), .ref n0, .ref r0, .ref j0, .ref p0]))] H := hP
  have hD : va_D A [(h0, .inr (6, [.ref a1, .int 0, .int (-1), .ref n0, .ref r0, .ref j0, .ref p0]))] := hD
  refine W.widen (k := 0) (n := 0) (Nat.le_of_ble_eq_true rfl) (Nat.le_of_ble_eq_true rfl) ?_
  obtain rfl : r9 = 0 := hw
  have hP9 := hP.sub (ws' := []) [] rfl
  have hD9 := hD.sub (ws' := []) [] (by decide) rfl
  refine W.widen (k := 0) (n := 0) (Nat.le_of_ble_eq_true rfl) (Nat.le_of_ble_eq_true rfl) ?_
  exact W.iret (v := 0) hx hb hr (fun t ht hW => ⟨⟨0, (), rfl, rfl, by rw [ht]; exact hP9, hD9⟩, hS.F ht⟩) hS.2.2 dX6_solved_7
