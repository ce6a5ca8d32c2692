/-! what a throw asks of the state, beside its words -/
def ex (A : Nat → Prop) (U : State) : Prop :=
  va_Nw (.castable "java/lang/IllegalArgumentException" "java/lang/IllegalArgumentException") U ∧ va_Nw (.castable "java/lang/IndexOutOfBoundsException" "java/lang/IndexOutOfBoundsException") U ∧ (va_Nw (.declares ⟨"java/lang/RuntimeException", "<init>", "(Ljava/lang/String;)V"⟩) U ∧ va_Nw (.declares ⟨"java/lang/Exception", "<init>", "(Ljava/lang/String;)V"⟩) U ∧ va_Nw (.declares ⟨"java/lang/Throwable", "<init>", "(Ljava/lang/String;)V"⟩) U) ∧ vx_Zq Bundle.tN "UNASSIGNED_STACK" Bundle.steD A U U.heap ∧ vx_Zq Bundle.tN "SUPPRESSED_SENTINEL" Bundle.listD A U U.heap ∧
  (∃ sa : Nat, vk_R RX6 54 "n is not 1 .. 8" sa U) ∧ (∃ sa : Nat, vk_R RX6 75 "the text is no term" sa U) ∧ (∃ sa : Nat, vk_R RX6 97 "the text is no pair of types" sa U) ∧ ∃ sa : Nat, vk_R RX6 108 "no such byte is printed" sa U
theorem ex_ok {A A' : Nat → Prop} {s U : State} {H : Heap} {locs : List Loc} (h : ex A s) (hS : va_S A s.heap H locs) (hU : U.heap = H) (hW : s.WarmedH U.vm) (hF : ∀ q, A' q → A q) : ex A' U := by
  obtain ⟨h1, h2, ⟨d1, d2, d3⟩, h3, h4, ⟨s5, h5⟩, ⟨s6, h6⟩, ⟨s7, h7⟩, s8, h8⟩ := h
  refine ⟨va_Nw.warmC hW h1, va_Nw.warmC hW h2, ⟨va_Nw.warmD hW d1, va_Nw.warmD hW d2, va_Nw.warmD hW d3⟩, ?_, ?_, ⟨s5, vk_R.warm hW h5⟩, ⟨s6, vk_R.warm hW h6⟩, ⟨s7, vk_R.warm hW h7⟩, s8, vk_R.warm hW h8⟩
  · rw [hU]; exact (vx_Zq.moved hW.alike (h3.kept hS.2.1)).narrow hF
  · rw [hU]; exact (vx_Zq.moved hW.alike (h4.kept hS.2.1)).narrow hF
def hpx (dC : Nat → ClassId) (dI : Nat → Nat → Nat) (cI cZ cL : ClassId) (sz : Nat) (ws : va_W) (U : State) : Prop :=
  U.heap.size = sz ∧ va_P (dC, dI) vwCl ws U.heap ∧ va_K (dC, dI) vwCl (t3 cI cZ cL) U ∧ va_D (fun _ => True) ws ∧ ex (va_A ws sz) U
theorem hpx_bl {dC : Nat → ClassId} {dI : Nat → Nat → Nat} {cI cZ cL : ClassId} {sz : Nat} {ws : va_W} {av : List Value} : FrameBlind (va_Pc av (hpx dC dI cI cZ cL sz ws)) := fun a U g mk q => by
  obtain ⟨q0, q1, qP, qK, qD, h1, h2, ⟨d1, d2, d3⟩, h3, h4, ⟨s5, h5⟩, ⟨s6, h6⟩, ⟨s7, h7⟩, s8, h8⟩ := q
  exact ⟨q0, q1, qP, va_K.moved (u := U) (U := U.calling g mk a) (Vm.Alike.refl U.vm) qK, qD, va_Nw.same rfl rfl h1, va_Nw.same rfl rfl h2, ⟨va_Nw.same rfl rfl d1, va_Nw.same rfl rfl d2, va_Nw.same rfl rfl d3⟩, vx_Zq.moved (u := U) (U := U.calling g mk a) (Vm.Alike.refl U.vm) h3, vx_Zq.moved (u := U) (U := U.calling g mk a) (Vm.Alike.refl U.vm) h4, ⟨s5, vk_R.same rfl h5⟩, ⟨s6, vk_R.same rfl h6⟩, ⟨s7, vk_R.same rfl h7⟩, s8, vk_R.same rfl h8⟩
theorem hpx_ok {dC : Nat → ClassId} {dI : Nat → Nat → Nat} {cI cZ cL : ClassId} {ws : va_W} {A : Nat → Prop} {av : List Value} {s U : State} {H : Heap} {locs : List Loc} (hU : U.heap = H) (hW : s.WarmedH U.vm) (hP : va_P (dC, dI) vwCl ws H) (hK : va_K (dC, dI) vwCl (t3 cI cZ cL) s) (hD : va_D A ws) (hE : ex A s) (hS : va_S A s.heap H locs) (hF : ∀ q, va_A ws H.size q → A q) : va_Pc av (hpx dC dI cI cZ cL H.size ws) av.toArray U :=
  ⟨rfl, by rw [hU], by rw [hU]; exact hP, va_K.moved hW.alike hK, hD.weaken (fun _ _ _ _ => trivial), ex_ok hE hS hU hW hF⟩
theorem at_in (L : List Cond) (h : ∀ w ∈ L.filter goodWord, w ∈ lw_tbl) : ∀ w ∈ L.filter goodWord, w ∈ gw_all := fun w hw => List.mem_filter.mpr ⟨h w hw, (List.mem_filter.mp hw).2⟩
theorem at_I : ∀ w ∈ (vx_atS RX6 56 "java/lang/IllegalArgumentException" ["java/lang/RuntimeException", "java/lang/Exception"]).filter goodWord, w ∈ gw_all := at_in _ (by decide +kernel)
theorem at_O : ∀ w ∈ (vx_atS RX6 110 "java/lang/IndexOutOfBoundsException" ["java/lang/RuntimeException", "java/lang/Exception"]).filter goodWord, w ∈ gw_all := at_in _ (by decide +kernel)
theorem no_I : ∀ w ∈ (vx_atS RX6 56 "java/lang/IllegalArgumentException" ["java/lang/RuntimeException", "java/lang/Exception"]).filter (fun w => !goodWord w), w ∈ [Cond.castable "java/lang/IllegalArgumentException" "java/lang/IllegalArgumentException", Cond.declares ⟨"java/lang/RuntimeException", "<init>", "(Ljava/lang/String;)V"⟩, Cond.declares ⟨"java/lang/Exception", "<init>", "(Ljava/lang/String;)V"⟩, Cond.declares ⟨"java/lang/Throwable", "<init>", "(Ljava/lang/String;)V"⟩] := by decide +kernel
theorem no_O : ∀ w ∈ (vx_atS RX6 110 "java/lang/IndexOutOfBoundsException" ["java/lang/RuntimeException", "java/lang/Exception"]).filter (fun w => !goodWord w), w ∈ [Cond.castable "java/lang/IndexOutOfBoundsException" "java/lang/IndexOutOfBoundsException", Cond.declares ⟨"java/lang/RuntimeException", "<init>", "(Ljava/lang/String;)V"⟩, Cond.declares ⟨"java/lang/Exception", "<init>", "(Ljava/lang/String;)V"⟩, Cond.declares ⟨"java/lang/Throwable", "<init>", "(Ljava/lang/String;)V"⟩] := by decide +kernel
theorem ot_I : ∀ w ∈ Cond.classLink RX6 52 "java/lang/IllegalArgumentException" :: Cond.initialized "java/lang/IllegalArgumentException" :: vx_atS RX6 56 "java/lang/IllegalArgumentException" ["java/lang/RuntimeException", "java/lang/Exception"], vx_ot w = true := by decide +kernel
theorem ot_O : ∀ w ∈ Cond.classLink RX6 106 "java/lang/IndexOutOfBoundsException" :: Cond.initialized "java/lang/IndexOutOfBoundsException" :: vx_atS RX6 110 "java/lang/IndexOutOfBoundsException" ["java/lang/RuntimeException", "java/lang/Exception"], vx_ot w = true := by decide +kernel
theorem fr_X {A : Nat → Prop} {s t : State} {H : Heap} {locs : List Loc} (hS : va_S A s.heap H locs) (h1 : H.size ≤ t.heap.size) (h2 : ∀ q : Nat, q < H.size → t.heap[q]? = H[q]?) : va_F A s t := ⟨Nat.le_trans hS.1 h1, fun q hq hn => (h2 q (Nat.lt_of_lt_of_le hq hS.1)).trans (hS.2.1 q hq hn)⟩
theorem nil_P {D : va_G} {cl : List vw_C} {H : Heap} : va_P D cl [] H := fun k q h => by simp at h
theorem nil_D {A : Nat → Prop} : va_D A [] := ⟨fun i j p q h => by simp at h, fun k q h => by simp at h⟩

set_option maxHeartbeats 4000000 in
set_option maxRecDepth 100000 in
/-- feed(.., n), n < 1: throws -/
theorem c_X6_feedL (l : Launch) (dC : Nat → ClassId) (dI : Nat → Nat → Nat) (cI cZ cL : ClassId) (h0 : Nat) (sz : Nat) (n0 r0 j0 p0 a1 : Nat) (b : Int64) (x : Int32) (hst : l.stackTraces = false) (hn : x < 1) : vx_Met l yX6_feed (wd yX6_feed cX6_feed 5 (some .int)) ({ frames := 6, cells := 1, slots := 6, locals := 82 }) (va_Pc [.ref h0, .long b, .int x] (hpx dC dI cI cZ cL sz [(h0, .inr (6, [.ref a1, .int 0, .int (-1), .ref n0, .ref r0, .ref j0, .ref p0]))])) (va_Qi (fun (r : Int32) (_ : Unit) => False) (fun (_ : Unit) t => va_P (dC, dI) vwCl [] t.heap ∧ va_D (va_A [(h0, .inr (6, [.ref a1, .int 0, .int (-1), .ref n0, .ref r0, .ref j0, .ref p0]))] sz) []) (va_A [(h0, .inr (6, [.ref a1, .int 0, .int (-1), .ref n0, .ref r0, .ref j0, .ref p0]))] sz)) (vx_X (fun (_ : Unit) => True) (fun E _ _ => E = "java/lang/IllegalArgumentException") (va_A [(h0, .inr (6, [.ref a1, .int 0, .int (-1), .ref n0, .ref r0, .ref j0, .ref p0]))] sz)) 1 6 (va_A [(h0, .inr (6, [.ref a1, .int 0, .int (-1), .ref n0, .ref r0, .ref j0, .ref p0]))] sz) := by
  refine vx_ofW (cc := cX6_feed) (maxL := 5) (ret := (some .int)) (by decide) rfl ?_
  intro p e s m args below meth c s₁ B hml htb hv
  obtain ⟨rfl, hsz, hP, hK, hD0, hE0⟩ := hv
  have hx := B.exec
  have hb := B.bytes
  have hr := B.returns
  have hw9 := atoms_spec (ws := (wd yX6_feed cX6_feed 5 (some .int))) B.pre
  have hg := gw_hts hw9
  have hown : s.vm.findClass RX6 = some m.cls := findClass_of_methodNamed B.named
  have hlocks := B.notSynchronized
  subst hsz
  have hD := hD0.self (sz := s.heap.size)
  have hE := hE0
  generalize hAe : va_A [(h0, .inr (6, [.ref a1, .int 0, .int (-1), .ref n0, .ref r0, .ref j0, .ref p0]))] s.heap.size = A at hD hE ⊢
  have hA : ∀ q : Nat, s.heap.size ≤ q → A q := fun q h => by rw [← hAe]; exact Or.inr h
  have hS : va_S A s.heap s.heap [] := va_S.rf
  have hl := lv_entry ([.ref h0, .long b, .int x]) (n := 5) (Nat.le_of_ble_eq_true rfl)
  rw [lg_entry_eq]
  generalize (lg_sl ([.ref h0, .long b, .int x]) ++ List.replicate (5 - (lg_sl ([.ref h0, .long b, .int x])).length) Slot.unset).toArray = ls at hl ⊢
  have hl : lv_has ls 5 [(0, .ref h0), (1, .long b), (3, .int x)] := hl
  refine lv_iload_n hx hb dX6_feed_0 rfl (lv_at hl 2 rfl) ?_
  refine lv_iconst (v := 1) hx hb dX6_feed_1 (by decide) ?_
  refine lv_icmp_lt (tgt := 11) hx hb dX6_feed_2 (by decide) (fun _ => ?_) (fun c9 => absurd hn c9)
  obtain ⟨hC1, hC2, ⟨hd1, hd2, hd3⟩, hU, hN, hT4⟩ := hE
  obtain ⟨⟨sa0, hs0⟩, ⟨sa1, hs1⟩, ⟨sa2, hs2⟩, sa3, hs3⟩ := hT4
  exact vx_throwS (own := RX6) (cls := "java/lang/IllegalArgumentException") (text := "n is not 1 .. 8") (names := ["java/lang/RuntimeException", "java/lang/Exception"]) (ik := 52) (is := 54) (ic := 56) (sa := sa0) (A := A) hx hb hst hown (by decide +kernel) (by decide +kernel) (hg _ k_274) (hg _ k_275) hs0 (vx_hat (fun w h => hg w (at_I w h)) no_I (vx_c (va_Nw.use rfl hC1) (vx_c (va_Nw.use rfl hd1) (vx_c (va_Nw.use rfl hd2) (vx_c (va_Nw.use rfl hd3) vx_n))))) ot_I hU hN hS (by rw [hml]; exact hl.1) dX6_feed_11 dX6_feed_14 dX6_feed_15 dX6_feed_17 dX6_feed_20 (fun x h => (htb x h).elim) (Nat.le_of_ble_eq_true rfl) (Nat.le_of_ble_eq_true rfl) (Nat.le_of_ble_eq_true rfl) (Nat.le_of_ble_eq_true rfl) hlocks (fun t _ h1 h2 => ⟨(), trivial, rfl, fr_X hS h1 h2⟩) hS.2.2 (Nat.le_of_ble_eq_true rfl) (Nat.le_of_ble_eq_true rfl)

set_option maxHeartbeats 4000000 in
set_option maxRecDepth 100000 in
/-- feed(.., n), n > 8: throws -/
theorem c_X6_feedH (l : Launch) (dC : Nat → ClassId) (dI : Nat → Nat → Nat) (cI cZ cL : ClassId) (h0 : Nat) (sz : Nat) (n0 r0 j0 p0 a1 : Nat) (b : Int64) (x : Int32) (hst : l.stackTraces = false) (hn : ¬ x < 1) (hm : ¬ x ≤ 8) : vx_Met l yX6_feed (wd yX6_feed cX6_feed 5 (some .int)) ({ frames := 6, cells := 1, slots := 6, locals := 82 }) (va_Pc [.ref h0, .long b, .int x] (hpx dC dI cI cZ cL sz [(h0, .inr (6, [.ref a1, .int 0, .int (-1), .ref n0, .ref r0, .ref j0, .ref p0]))])) (va_Qi (fun (r : Int32) (_ : Unit) => False) (fun (_ : Unit) t => va_P (dC, dI) vwCl [] t.heap ∧ va_D (va_A [(h0, .inr (6, [.ref a1, .int 0, .int (-1), .ref n0, .ref r0, .ref j0, .ref p0]))] sz) []) (va_A [(h0, .inr (6, [.ref a1, .int 0, .int (-1), .ref n0, .ref r0, .ref j0, .ref p0]))] sz)) (vx_X (fun (_ : Unit) => True) (fun E _ _ => E = "java/lang/IllegalArgumentException") (va_A [(h0, .inr (6, [.ref a1, .int 0, .int (-1), .ref n0, .ref r0, .ref j0, .ref p0]))] sz)) 1 6 (va_A [(h0, .inr (6, [.ref a1, .int 0, .int (-1), .ref n0, .ref r0, .ref j0, .ref p0]))] sz) := by
  refine vx_ofW (cc := cX6_feed) (maxL := 5) (ret := (some .int)) (by decide) rfl ?_
  intro p e s m args below meth c s₁ B hml htb hv
  obtain ⟨rfl, hsz, hP, hK, hD0, hE0⟩ := hv
  have hx := B.exec
  have hb := B.bytes
  have hr := B.returns
  have hw9 := atoms_spec (ws := (wd yX6_feed cX6_feed 5 (some .int))) B.pre
  have hg := gw_hts hw9
  have hown : s.vm.findClass RX6 = some m.cls := findClass_of_methodNamed B.named
  have hlocks := B.notSynchronized
  subst hsz
  have hD := hD0.self (sz := s.heap.size)
  have hE := hE0
  generalize hAe : va_A [(h0, .inr (6, [.ref a1, .int 0, .int (-1), .ref n0, .ref r0, .ref j0, .ref p0]))] s.heap.size = A at hD hE ⊢
  have hA : ∀ q : Nat, s.heap.size ≤ q → A q := fun q h => by rw [← hAe]; exact Or.inr h
  have hS : va_S A s.heap s.heap [] := va_S.rf
  have hl := lv_entry ([.ref h0, .long b, .int x]) (n := 5) (Nat.le_of_ble_eq_true rfl)
  rw [lg_entry_eq]
  generalize (lg_sl ([.ref h0, .long b, .int x]) ++ List.replicate (5 - (lg_sl ([.ref h0, .long b, .int x])).length) Slot.unset).toArray = ls at hl ⊢
  have hl : lv_has ls 5 [(0, .ref h0), (1, .long b), (3, .int x)] := hl
  refine lv_iload_n hx hb dX6_feed_0 rfl (lv_at hl 2 rfl) ?_
  refine lv_iconst (v := 1) hx hb dX6_feed_1 (by decide) ?_
  refine lv_icmp_lt (tgt := 11) hx hb dX6_feed_2 (by decide) (fun c9 => absurd c9 hn) (fun _ => ?_)
  refine lv_iload_n hx hb dX6_feed_5 rfl (lv_at hl 2 rfl) ?_
  refine lv_bipush (v := 8) hx hb dX6_feed_6 (by decide) ?_
  refine lv_icmp_le (tgt := 21) hx hb dX6_feed_8 (by decide) (fun c9 => absurd c9 hm) (fun _ => ?_)
  obtain ⟨hC1, hC2, ⟨hd1, hd2, hd3⟩, hU, hN, hT4⟩ := hE
  obtain ⟨⟨sa0, hs0⟩, ⟨sa1, hs1⟩, ⟨sa2, hs2⟩, sa3, hs3⟩ := hT4
  exact vx_throwS (own := RX6) (cls := "java/lang/IllegalArgumentException") (text := "n is not 1 .. 8") (names := ["java/lang/RuntimeException", "java/lang/Exception"]) (ik := 52) (is := 54) (ic := 56) (sa := sa0) (A := A) hx hb hst hown (by decide +kernel) (by decide +kernel) (hg _ k_274) (hg _ k_275) hs0 (vx_hat (fun w h => hg w (at_I w h)) no_I (vx_c (va_Nw.use rfl hC1) (vx_c (va_Nw.use rfl hd1) (vx_c (va_Nw.use rfl hd2) (vx_c (va_Nw.use rfl hd3) vx_n))))) ot_I hU hN hS (by rw [hml]; exact hl.1) dX6_feed_11 dX6_feed_14 dX6_feed_15 dX6_feed_17 dX6_feed_20 (fun x h => (htb x h).elim) (Nat.le_of_ble_eq_true rfl) (Nat.le_of_ble_eq_true rfl) (Nat.le_of_ble_eq_true rfl) (Nat.le_of_ble_eq_true rfl) hlocks (fun t _ h1 h2 => ⟨(), trivial, rfl, fr_X hS h1 h2⟩) hS.2.2 (Nat.le_of_ble_eq_true rfl) (Nat.le_of_ble_eq_true rfl)

/-- the class's shift: behind k bytes still to come it stands at 8 * (k - 1) -/
def sh : Nat → Int32 | 0 => -8 | k + 1 => nI (8 * k)
theorem sh_lt : ∀ k, k < 9 → ¬ sh (k + 1) < 0 := by decide
theorem sh_st : ∀ k, k < 9 → sh (k + 1) + Int32.ofInt (-8) = sh k := by decide
theorem sh_in : ∀ j, j < 9 → 0 < j → 8 * (nI j - 1) = sh j := by decide

set_option maxHeartbeats 4000000 in
set_option maxRecDepth 100000 in
theorem lp_feed6 {p : Program} {l : Launch} {e : Env} {R : Room} {s : State} {m : MethodId} {args : Array Value} {below : List Frame} {meth : Method} {c : Code} {Q : State → Prop} {cells slots : Nat} {dC : Nat → ClassId} {dI : Nat → Nat → Nat} {cI cZ cL : ClassId} {A : Nat → Prop} {h0 a1 n0 r0 j0 p0 : Nat} {b : Int64} {x : Int32} {j : Nat} (hj : j < 9) (hx : p.tables.exec = Jvm.exec) (hb : c.code = cX6_feed) (hg : ∀ w ∈ gw_all, w.before args s = true) (hown : s.vm.findClass RX6 = some m.cls) (hK : va_K (dC, dI) vwCl (t3 cI cZ cL) s)
    (kk : ∀ (f : Nat → Int32) (H : Heap) (locs : List Loc) (ls : Array Slot), va_P (dC, dI) vwCl [(h0, .inr (6, [.ref a1, .int (nI j), .int (-1), .ref n0, .ref r0, .ref j0, .ref p0])), (a1, .inl (cI, 60, .inl f))] H → va_D A [(h0, .inr (6, [.ref a1, .int (nI j), .int (-1), .ref n0, .ref r0, .ref j0, .ref p0])), (a1, .inl (cI, 60, .inl f))] → va_S A s.heap H locs → lv_has ls 5 [(0, .ref h0)] → W p l e R s m args below meth c H locs cells slots Q (F0 m 89 ls [])) :
    ∀ (k i : Nat), i + k = j → ∀ (f : Nat → Int32) (H : Heap) (locs : List Loc) (ls : Array Slot), va_P (dC, dI) vwCl [(h0, .inr (6, [.ref a1, .int (nI i), .int (-1), .ref n0, .ref r0, .ref j0, .ref p0])), (a1, .inl (cI, 60, .inl f))] H → va_D A [(h0, .inr (6, [.ref a1, .int (nI i), .int (-1), .ref n0, .ref r0, .ref j0, .ref p0])), (a1, .inl (cI, 60, .inl f))] → va_S A s.heap H locs → lv_has ls 5 [(0, .ref h0), (1, .long b), (3, .int x), (4, .int (sh k))] → W p l e R s m args below meth c H locs cells slots Q (F0 m 50 ls []) := by
  intro k
  induction k with
  | zero =>
    intro i hi f H locs ls hP hD hS hl
    obtain rfl : i = j := by omega
    refine lv_iload hx hb dX6_feed_50 (lv_at hl 3 rfl) ?_
    exact lv_if_lt (tgt := 89) hx hb dX6_feed_52 (by decide) (fun _ => kk f H locs ls hP hD hS (lv_sub hl [0] rfl)) (fun c9 => absurd (by decide) c9)
  | succ k ih =>
    intro i hi f H locs ls hP hD hS hl
    refine lv_iload hx hb dX6_feed_50 (lv_at hl 3 rfl) ?_
    refine lv_if_lt (tgt := 89) hx hb dX6_feed_52 (by decide) (fun c9 => absurd c9 (sh_lt k (by omega))) (fun _ => ?_)
    refine lv_aload_n hx hb dX6_feed_55 rfl (lv_at hl 0 rfl) ?_
    refine va_get (D := (dC, dI)) (ci := 6) (v := .ref a1) (C := RX6) (T := TX6) (N := 7) hx hb hg i_X6 hown hK hP 0 rfl rfl 0 (by decide) (hg _ k_71) (fun _ h9 => h9) rfl dX6_feed_56 ?_
    refine lv_aload_n hx hb dX6_feed_59 rfl (lv_at hl 0 rfl) ?_
    refine va_get (D := (dC, dI)) (ci := 6) (v := .int (nI i)) (C := RX6) (T := TX6) (N := 7) hx hb hg i_X6 hown hK hP 0 rfl rfl 1 (by decide) (hg _ k_72) (fun _ h9 => h9) rfl dX6_feed_60 ?_
    refine lv_lload_n hx hb dX6_feed_63 rfl (lv_at hl 1 rfl) ?_
    refine lv_iload hx hb dX6_feed_64 (lv_at hl 3 rfl) ?_
    refine lv_lushr hx hb dX6_feed_66 rfl ?_
    refine lv_topl (fun z1 ez1 => ?_)
    refine lv_ldc2 (v := 255) hx hb hown (hg _ k_276) dX6_feed_67 ?_
    refine lv_land hx hb dX6_feed_70 ?_
    refine lv_topl (fun z2 ez2 => ?_)
    refine lv_l2i hx hb dX6_feed_71 rfl ?_
    refine lv_topi (fun z3 ez3 => ?_)
    refine va_iast hx hb hK hP hD hS 1 0 rfl rfl (vp_in_nI (by omega) (by omega)) dX6_feed_72 (fun H locs hP hD hS => ?_)
    generalize upd f (Int32.toNatClampNeg (nI i)) (z3 : Int32) = f4 at hP hD
    have hP : va_P (dC, dI) vwCl [(h0, .inr (6, [.ref a1, .int (nI i), .int (-1), .ref n0, .ref r0, .ref j0, .ref p0])), (a1, .inl (cI, 60, .inl f4))] H := hP
    have hD : va_D A [(h0, .inr (6, [.ref a1, .int (nI i), .int (-1), .ref n0, .ref r0, .ref j0, .ref p0])), (a1, .inl (cI, 60, .inl f4))] := hD
    refine lv_aload_n hx hb dX6_feed_73 rfl (lv_at hl 0 rfl) ?_
    refine lv_dup hx hb dX6_feed_74 rfl ?_
    refine va_get (D := (dC, dI)) (ci := 6) (v := .int (nI i)) (C := RX6) (T := TX6) (N := 7) hx hb hg i_X6 hown hK hP 0 rfl rfl 1 (by decide) (hg _ k_72) (fun _ h9 => h9) rfl dX6_feed_75 ?_
    refine lv_iconst (v := 1) hx hb dX6_feed_78 (by decide) ?_
    refine lv_iadd hx hb dX6_feed_79 ?_
    refine lv_topi (fun z5 ez5 => ?_)
    obtain rfl : z5 = nI (i + 1) := ez5.trans (nI_1 i)
    refine va_put (D := (dC, dI)) (ci := 6) (v := .int (nI (i + 1))) (ty := .int) (C := RX6) (T := TX6) (N := 7) hx hb hg i_X6 tyX6 tyX6_ok nmX6 hown hK hP hD hS 0 rfl rfl 1 (by decide) (hg _ k_72) (fun _ h9 => h9) rfl (by decide +kernel) rfl rfl (Nat.le_of_ble_eq_true rfl) dX6_feed_80 (fun H locs hP hD hS => ?_)
    have hP : va_P (dC, dI) vwCl [(h0, .inr (6, [.ref a1, .int (nI (i + 1)), .int (-1), .ref n0, .ref r0, .ref j0, .ref p0])), (a1, .inl (cI, 60, .inl f4))] H := hP
    have hD : va_D A [(h0, .inr (6, [.ref a1, .int (nI (i + 1)), .int (-1), .ref n0, .ref r0, .ref j0, .ref p0])), (a1, .inl (cI, 60, .inl f4))] := hD
    refine lv_iinc (v := sh k) (lv' := [(4, .int (sh k)), (0, .ref h0), (1, .long b), (3, .int x)]) hx hb dX6_feed_83 hl (k := 3) rfl (sh_st k (by omega)) (by decide) rfl (fun ls hl => ?_)
    refine lv_goto (tgt := 50) hx hb dX6_feed_86 (by decide) ?_
    exact ih (i + 1) (by omega) _ H locs ls hP hD hS (lv_sub hl [1, 2, 3, 0] rfl)

set_option maxHeartbeats 4000000 in
set_option maxRecDepth 100000 in
/-- feed(.., n), 1 <= n <= 8 -/
theorem c_X6_feedG (l : Launch) (dC : Nat → ClassId) (dI : Nat → Nat → Nat) (cI cZ cL : ClassId) (h0 a1 : Nat) (sz : Nat) (n0 r0 j0 p0 : Nat) (b : Int64) (j : Nat) (hj : j < 9) (h1 : 0 < j) : Met l yX6_feed (wd yX6_feed cX6_feed 5 (some .int)) ({ frames := 0, cells := 0, slots := 0, locals := 0 }) (va_Pc [.ref h0, .long b, .int (nI j)] (hp dC dI cI cZ cL sz [(h0, .inr (6, [.ref a1, .int 0, .int (-1), .ref n0, .ref r0, .ref j0, .ref p0])), (a1, .inl (cI, 60, .inl zI))])) (va_Qi (fun (r : Int32) (_ : Unit) => r = nI j) (fun (_ : Unit) t => va_P (dC, dI) vwCl [] t.heap ∧ va_D (va_A [(h0, .inr (6, [.ref a1, .int 0, .int (-1), .ref n0, .ref r0, .ref j0, .ref p0])), (a1, .inl (cI, 60, .inl zI))] sz) []) (va_A [(h0, .inr (6, [.ref a1, .int 0, .int (-1), .ref n0, .ref r0, .ref j0, .ref p0])), (a1, .inl (cI, 60, .inl zI))] sz)) 0 0 (va_A [(h0, .inr (6, [.ref a1, .int 0, .int (-1), .ref n0, .ref r0, .ref j0, .ref p0])), (a1, .inl (cI, 60, .inl zI))] sz) := by
  refine Met.ofW (cc := cX6_feed) (maxL := 5) (ret := (some .int)) (by decide) rfl ?_
  intro p e s m args below meth c s₁ B hml hv
  obtain ⟨rfl, hsz, hP, hK, hD0⟩ := hv
  have hx := B.exec
  have hb := B.bytes
  have hr := B.returns
  have hw9 := atoms_spec (ws := (wd yX6_feed cX6_feed 5 (some .int))) B.pre
  have hg := gw_hts hw9
  have hown : s.vm.findClass RX6 = some m.cls := findClass_of_methodNamed B.named
  have hlocks := B.notSynchronized
  subst hsz
  have hD := hD0.self (sz := s.heap.size)
  generalize hAe : va_A [(h0, .inr (6, [.ref a1, .int 0, .int (-1), .ref n0, .ref r0, .ref j0, .ref p0])), (a1, .inl (cI, 60, .inl zI))] s.heap.size = A at hD ⊢
  have hA : ∀ q : Nat, s.heap.size ≤ q → A q := fun q h => by rw [← hAe]; exact Or.inr h
  have hS : va_S A s.heap s.heap [] := va_S.rf
  have hl := lv_entry ([.ref h0, .long b, .int (nI j)]) (n := 5) (Nat.le_of_ble_eq_true rfl)
  rw [lg_entry_eq]
  generalize (lg_sl ([.ref h0, .long b, .int (nI j)]) ++ List.replicate (5 - (lg_sl ([.ref h0, .long b, .int (nI j)])).length) Slot.unset).toArray = ls at hl ⊢
  have hl : lv_has ls 5 [(0, .ref h0), (1, .long b), (3, .int (nI j))] := hl
  refine lv_iload_n hx hb dX6_feed_0 rfl (lv_at hl 2 rfl) ?_
  refine lv_iconst (v := 1) hx hb dX6_feed_1 (by decide) ?_
  refine lv_icmp_lt (tgt := 11) hx hb dX6_feed_2 (by decide) (fun c9 => absurd c9 (sj_lo j hj h1)) (fun _ => ?_)
  refine lv_iload_n hx hb dX6_feed_5 rfl (lv_at hl 2 rfl) ?_
  refine lv_bipush (v := 8) hx hb dX6_feed_6 (by decide) ?_
  refine lv_icmp_le (tgt := 21) hx hb dX6_feed_8 (by decide) (fun _ => ?_) (fun c9 => absurd (sj_hi j hj) c9)
  refine lv_aload_n hx hb dX6_feed_21 rfl (lv_at hl 0 rfl) ?_
  refine va_get (D := (dC, dI)) (ci := 6) (v := .int 0) (C := RX6) (T := TX6) (N := 7) hx hb hg i_X6 hown hK hP 0 rfl rfl 1 (by decide) (hg _ k_72) (fun _ h9 => h9) rfl dX6_feed_22 ?_
  refine lv_iload_n hx hb dX6_feed_25 rfl (lv_at hl 2 rfl) ?_
  refine lv_iadd hx hb dX6_feed_26 ?_
  refine lv_topi (fun z1 ez1 => ?_)
  refine lv_bipush (v := 60) hx hb dX6_feed_27 (by decide) ?_
  refine lv_icmp_le (tgt := 42) hx hb dX6_feed_29 (by decide) (fun _ => ?_) (fun c9 => absurd (by rw [ez1]; exact sj_60 j hj) c9)
  refine lv_bipush (v := 8) hx hb dX6_feed_42 (by decide) ?_
  refine lv_iload_n hx hb dX6_feed_44 rfl (lv_at hl 2 rfl) ?_
  refine lv_iconst (v := 1) hx hb dX6_feed_45 (by decide) ?_
  refine lv_isub hx hb dX6_feed_46 ?_
  refine lv_topi (fun z2 ez2 => ?_)
  refine lv_imul hx hb dX6_feed_47 ?_
  refine lv_topi (fun z3 ez3 => ?_)
  obtain rfl : z3 = sh j := ez3.trans (by rw [ez2]; exact sh_in j hj h1)
  refine lv_istore (lv' := [(4, .int (sh j)), (0, .ref h0), (1, .long b), (3, .int (nI j))]) hx hb dX6_feed_48 hl (by decide) rfl (fun ls hl => ?_)
  refine W.widen (k := 0) (n := 0) (Nat.le_of_ble_eq_true rfl) (Nat.le_of_ble_eq_true rfl) ?_
  refine lp_feed6 hj hx hb hg hown hK (fun f H locs ls hP hD hS hl => ?_) j 0 (Nat.zero_add j) zI _ _ ls (hP.sub [0, 1] rfl) (hD.sub [0, 1] (by decide) rfl) hS (lv_sub hl [1, 2, 3, 0] rfl)
  refine lv_aload_n hx hb dX6_feed_89 rfl (lv_at hl 0 rfl) ?_
  refine va_get (D := (dC, dI)) (ci := 6) (v := .int (nI j)) (C := RX6) (T := TX6) (N := 7) hx hb hg i_X6 hown hK hP 0 rfl rfl 1 (by decide) (hg _ k_72) (fun _ h9 => h9) rfl dX6_feed_90 ?_
  have hP9 := hP.sub (ws' := []) [] rfl
  have hD9 := hD.sub (ws' := []) [] (by decide) rfl
  refine W.widen (k := 0) (n := 0) (Nat.le_of_ble_eq_true rfl) (Nat.le_of_ble_eq_true rfl) ?_
  exact W.iret (v := (nI j)) hx hb hr (fun t ht hW => ⟨⟨(nI j), (), rfl, rfl, by rw [ht]; exact hP9, hD9⟩, hS.F ht⟩) hS.2.2 dX6_feed_93

set_option maxHeartbeats 4000000 in
set_option maxRecDepth 100000 in
/-- infer() with nothing fed: throws -/
theorem c_X6_infer (l : Launch) (dC : Nat → ClassId) (dI : Nat → Nat → Nat) (cI cZ cL : ClassId) (h0 a1 n0 b1 b2 b3 b4 b5 r0 a2 j0 x0 p0 : Nat) (sz : Nat) (a3 j2 j3 j4 j5 c1 c2 p1 p2 : Nat) (hst : l.stackTraces = false) : vx_Met l yX6_infer (wd yX6_infer cX6_infer 3 (some .boolean)) ({ frames := 6, cells := 1, slots := 6, locals := 87 }) (va_Pc [.ref h0] (hpx dC dI cI cZ cL sz [(h0, .inr (6, [.ref a1, .int 0, .int (-1), .ref n0, .ref r0, .ref j0, .ref p0])), (a1, .inl (cI, 60, .inl zI)), (n0, .inr (2, [.ref b1, .ref b2, .ref b3, .ref b4, .ref b5, .int 0])), (b1, .inl (cI, 4096, .inl zI)), (b2, .inl (cI, 4096, .inl zI)), (b3, .inl (cI, 4096, .inl zI)), (b4, .inl (cI, 4096, .inl zI)), (b5, .inl (cZ, 4096, .inl zI)), (r0, .inr (4, [.ref n0, .ref a1, .ref a2, .ref a3, .int 0, .int 0, .int 0, .int 0, .int (-1)])), (a2, .inl (cI, 26, .inl zI)), (j0, .inr (1, [.ref n0, .ref x0, .ref j2, .ref j3, .ref j4, .ref j5, .int 0, .int 0, .int (-1), .int 0, .int 0])), (x0, .inr (0, [.ref n0, .ref c1, .ref c2, .int 0])), (p0, .inr (3, [.ref n0, .ref p1, .ref p2, .int 0, .int (-1), .int 0]))])) (va_Qi (fun (r : Int32) (_ : Unit) => False) (fun (_ : Unit) t => va_P (dC, dI) vwCl [] t.heap ∧ va_D (va_A [(h0, .inr (6, [.ref a1, .int 0, .int (-1), .ref n0, .ref r0, .ref j0, .ref p0])), (a1, .inl (cI, 60, .inl zI)), (n0, .inr (2, [.ref b1, .ref b2, .ref b3, .ref b4, .ref b5, .int 0])), (b1, .inl (cI, 4096, .inl zI)), (b2, .inl (cI, 4096, .inl zI)), (b3, .inl (cI, 4096, .inl zI)), (b4, .inl (cI, 4096, .inl zI)), (b5, .inl (cZ, 4096, .inl zI)), (r0, .inr (4, [.ref n0, .ref a1, .ref a2, .ref a3, .int 0, .int 0, .int 0, .int 0, .int (-1)])), (a2, .inl (cI, 26, .inl zI)), (j0, .inr (1, [.ref n0, .ref x0, .ref j2, .ref j3, .ref j4, .ref j5, .int 0, .int 0, .int (-1), .int 0, .int 0])), (x0, .inr (0, [.ref n0, .ref c1, .ref c2, .int 0])), (p0, .inr (3, [.ref n0, .ref p1, .ref p2, .int 0, .int (-1), .int 0]))] sz) []) (va_A [(h0, .inr (6, [.ref a1, .int 0, .int (-1), .ref n0, .ref r0, .ref j0, .ref p0])), (a1, .inl (cI, 60, .inl zI)), (n0, .inr (2, [.ref b1, .ref b2, .ref b3, .ref b4, .ref b5, .int 0])), (b1, .inl (cI, 4096, .inl zI)), (b2, .inl (cI, 4096, .inl zI)), (b3, .inl (cI, 4096, .inl zI)), (b4, .inl (cI, 4096, .inl zI)), (b5, .inl (cZ, 4096, .inl zI)), (r0, .inr (4, [.ref n0, .ref a1, .ref a2, .ref a3, .int 0, .int 0, .int 0, .int 0, .int (-1)])), (a2, .inl (cI, 26, .inl zI)), (j0, .inr (1, [.ref n0, .ref x0, .ref j2, .ref j3, .ref j4, .ref j5, .int 0, .int 0, .int (-1), .int 0, .int 0])), (x0, .inr (0, [.ref n0, .ref c1, .ref c2, .int 0])), (p0, .inr (3, [.ref n0, .ref p1, .ref p2, .int 0, .int (-1), .int 0]))] sz)) (vx_X (fun (_ : Unit) => True) (fun E _ _ => E = "java/lang/IllegalArgumentException") (va_A [(h0, .inr (6, [.ref a1, .int 0, .int (-1), .ref n0, .ref r0, .ref j0, .ref p0])), (a1, .inl (cI, 60, .inl zI)), (n0, .inr (2, [.ref b1, .ref b2, .ref b3, .ref b4, .ref b5, .int 0])), (b1, .inl (cI, 4096, .inl zI)), (b2, .inl (cI, 4096, .inl zI)), (b3, .inl (cI, 4096, .inl zI)), (b4, .inl (cI, 4096, .inl zI)), (b5, .inl (cZ, 4096, .inl zI)), (r0, .inr (4, [.ref n0, .ref a1, .ref a2, .ref a3, .int 0, .int 0, .int 0, .int 0, .int (-1)])), (a2, .inl (cI, 26, .inl zI)), (j0, .inr (1, [.ref n0, .ref x0, .ref j2, .ref j3, .ref j4, .ref j5, .int 0, .int 0, .int (-1), .int 0, .int 0])), (x0, .inr (0, [.ref n0, .ref c1, .ref c2, .int 0])), (p0, .inr (3, [.ref n0, .ref p1, .ref p2, .int 0, .int (-1), .int 0]))] sz)) 1 6 (va_A [(h0, .inr (6, [.ref a1, .int 0, .int (-1), .ref n0, .ref r0, .ref j0, .ref p0])), (a1, .inl (cI, 60, .inl zI)), (n0, .inr (2, [.ref b1, .ref b2, .ref b3, .ref b4, .ref b5, .int 0])), (b1, .inl (cI, 4096, .inl zI)), (b2, .inl (cI, 4096, .inl zI)), (b3, .inl (cI, 4096, .inl zI)), (b4, .inl (cI, 4096, .inl zI)), (b5, .inl (cZ, 4096, .inl zI)), (r0, .inr (4, [.ref n0, .ref a1, .ref a2, .ref a3, .int 0, .int 0, .int 0, .int 0, .int (-1)])), (a2, .inl (cI, 26, .inl zI)), (j0, .inr (1, [.ref n0, .ref x0, .ref j2, .ref j3, .ref j4, .ref j5, .int 0, .int 0, .int (-1), .int 0, .int 0])), (x0, .inr (0, [.ref n0, .ref c1, .ref c2, .int 0])), (p0, .inr (3, [.ref n0, .ref p1, .ref p2, .int 0, .int (-1), .int 0]))] sz) := by
  refine vx_ofW (cc := cX6_infer) (maxL := 3) (ret := (some .boolean)) (by decide) rfl ?_
  intro p e s m args below meth c s₁ B hml htb hv
  obtain ⟨rfl, hsz, hP, hK, hD0, hE0⟩ := hv
  have hx := B.exec
  have hb := B.bytes
  have hr := B.returns
  have hw9 := atoms_spec (ws := (wd yX6_infer cX6_infer 3 (some .boolean))) B.pre
  have hg := gw_hts hw9
  have hown : s.vm.findClass RX6 = some m.cls := findClass_of_methodNamed B.named
  have hlocks := B.notSynchronized
  subst hsz
  have hD := hD0.self (sz := s.heap.size)
  have hE := hE0
  generalize hAe : va_A [(h0, .inr (6, [.ref a1, .int 0, .int (-1), .ref n0, .ref r0, .ref j0, .ref p0])), (a1, .inl (cI, 60, .inl zI)), (n0, .inr (2, [.ref b1, .ref b2, .ref b3, .ref b4, .ref b5, .int 0])), (b1, .inl (cI, 4096, .inl zI)), (b2, .inl (cI, 4096, .inl zI)), (b3, .inl (cI, 4096, .inl zI)), (b4, .inl (cI, 4096, .inl zI)), (b5, .inl (cZ, 4096, .inl zI)), (r0, .inr (4, [.ref n0, .ref a1, .ref a2, .ref a3, .int 0, .int 0, .int 0, .int 0, .int (-1)])), (a2, .inl (cI, 26, .inl zI)), (j0, .inr (1, [.ref n0, .ref x0, .ref j2, .ref j3, .ref j4, .ref j5, .int 0, .int 0, .int (-1), .int 0, .int 0])), (x0, .inr (0, [.ref n0, .ref c1, .ref c2, .int 0])), (p0, .inr (3, [.ref n0, .ref p1, .ref p2, .int 0, .int (-1), .int 0]))] s.heap.size = A at hD hE ⊢
  have hA : ∀ q : Nat, s.heap.size ≤ q → A q := fun q h => by rw [← hAe]; exact Or.inr h
  have hS : va_S A s.heap s.heap [] := va_S.rf
  have hl := lv_entry ([.ref h0]) (n := 3) (Nat.le_of_ble_eq_true rfl)
  rw [lg_entry_eq]
  generalize (lg_sl ([.ref h0]) ++ List.replicate (3 - (lg_sl ([.ref h0])).length) Slot.unset).toArray = ls at hl ⊢
  have hl : lv_has ls 3 [(0, .ref h0)] := hl
  refine lv_aload_n hx hb dX6_infer_0 rfl (lv_at hl 0 rfl) ?_
  have hPc := hP.sub (ws' := [(h0, .inr (6, [.ref a1, .int 0, .int (-1), .ref n0, .ref r0, .ref j0, .ref p0])), (a1, .inl (cI, 60, .inl zI)), (n0, .inr (2, [.ref b1, .ref b2, .ref b3, .ref b4, .ref b5, .int 0])), (b1, .inl (cI, 4096, .inl zI)), (b2, .inl (cI, 4096, .inl zI)), (b3, .inl (cI, 4096, .inl zI)), (b4, .inl (cI, 4096, .inl zI)), (b5, .inl (cZ, 4096, .inl zI)), (r0, .inr (4, [.ref n0, .ref a1, .ref a2, .ref a3, .int 0, .int 0, .int 0, .int 0, .int (-1)])), (a2, .inl (cI, 26, .inl zI)), (j0, .inr (1, [.ref n0, .ref x0, .ref j2, .ref j3, .ref j4, .ref j5, .int 0, .int 0, .int (-1), .int 0, .int 0])), (x0, .inr (0, [.ref n0, .ref c1, .ref c2, .int 0])), (p0, .inr (3, [.ref n0, .ref p1, .ref p2, .int 0, .int (-1), .int 0]))]) [0, 1, 2, 3, 4, 5, 6, 7, 8, 9, 10, 11, 12] rfl
  have hDc := hD.sub (ws' := [(h0, .inr (6, [.ref a1, .int 0, .int (-1), .ref n0, .ref r0, .ref j0, .ref p0])), (a1, .inl (cI, 60, .inl zI)), (n0, .inr (2, [.ref b1, .ref b2, .ref b3, .ref b4, .ref b5, .int 0])), (b1, .inl (cI, 4096, .inl zI)), (b2, .inl (cI, 4096, .inl zI)), (b3, .inl (cI, 4096, .inl zI)), (b4, .inl (cI, 4096, .inl zI)), (b5, .inl (cZ, 4096, .inl zI)), (r0, .inr (4, [.ref n0, .ref a1, .ref a2, .ref a3, .int 0, .int 0, .int 0, .int 0, .int (-1)])), (a2, .inl (cI, 26, .inl zI)), (j0, .inr (1, [.ref n0, .ref x0, .ref j2, .ref j3, .ref j4, .ref j5, .int 0, .int 0, .int (-1), .int 0, .int 0])), (x0, .inr (0, [.ref n0, .ref c1, .ref c2, .int 0])), (p0, .inr (3, [.ref n0, .ref p1, .ref p2, .int 0, .int (-1), .int 0]))]) [0, 1, 2, 3, 4, 5, 6, 7, 8, 9, 10, 11, 12] (by decide) rfl
  have hFc := va_free (wc := [(h0, .inr (6, [.ref a1, .int 0, .int (-1), .ref n0, .ref r0, .ref j0, .ref p0])), (a1, .inl (cI, 60, .inl zI)), (n0, .inr (2, [.ref b1, .ref b2, .ref b3, .ref b4, .ref b5, .int 0])), (b1, .inl (cI, 4096, .inl zI)), (b2, .inl (cI, 4096, .inl zI)), (b3, .inl (cI, 4096, .inl zI)), (b4, .inl (cI, 4096, .inl zI)), (b5, .inl (cZ, 4096, .inl zI)), (r0, .inr (4, [.ref n0, .ref a1, .ref a2, .ref a3, .int 0, .int 0, .int 0, .int 0, .int (-1)])), (a2, .inl (cI, 26, .inl zI)), (j0, .inr (1, [.ref n0, .ref x0, .ref j2, .ref j3, .ref j4, .ref j5, .int 0, .int 0, .int (-1), .int 0, .int 0])), (x0, .inr (0, [.ref n0, .ref c1, .ref c2, .int 0])), (p0, .inr (3, [.ref n0, .ref p1, .ref p2, .int 0, .int (-1), .int 0]))]) hD hS hA [0, 1, 2, 3, 4, 5, 6, 7, 8, 9, 10, 11, 12] rfl
  refine va_callv (va_runV (As := []) (rest := []) ⟨hx, hb, hml, hown, hg⟩ (c_X6_startText l dC dI cI cZ cL h0 a1 n0 b1 b2 b3 b4 b5 r0 a2 j0 x0 p0 (Array.size _) a3 j2 j3 j4 j5 c1 c2 p1 p2) (cwV 0 hg (gw_V k_277 k_278 k_279 k_280 g_yX6_startText) rfl rfl rfl (by decide +kernel) ⟨(Nat.le_of_ble_eq_true rfl), (Nat.le_of_ble_eq_true rfl)⟩) ⟨hp_bl, va_recv hK hPc (ci := 6) (q0 := 0) rfl rfl, fun U hU hW => hp_ok hU hW hPc hK hDc⟩ rfl rfl hl.1 rfl (lv_room (Nat.le_of_ble_eq_true rfl)) dX6_infer_1 ⟨(Nat.le_of_ble_eq_true rfl), (Nat.le_of_ble_eq_true rfl)⟩) hS (fun q _ h => hFc q h) hFc (fun u t H locs ht hvm hw hB hz1 hk1 hS => ?_)
  obtain ⟨hP1, hD1⟩ := hB
  rw [ht] at hP1
  obtain ⟨hP, hD⟩ := va_join (wr := []) (w1 := [(h0, .inr (6, [.ref a1, .int 0, .int (-1), .ref n0, .ref r0, .ref j0, .ref p0])), (r0, .inr (4, [.ref n0, .ref a1, .ref a2, .ref a3, .int 0, .int 0, .int 0, .int 0, .int (-1)]))]) hP hD [0, 1, 2, 3, 4, 5, 6, 7, 8, 9, 10, 11, 12] [] rfl rfl (by decide) (by decide) hk1 hFc hP1 hD1
  have hP : va_P (dC, dI) vwCl [(h0, .inr (6, [.ref a1, .int 0, .int (-1), .ref n0, .ref r0, .ref j0, .ref p0])), (r0, .inr (4, [.ref n0, .ref a1, .ref a2, .ref a3, .int 0, .int 0, .int 0, .int 0, .int (-1)]))] H := hP
  have hD : va_D A [(h0, .inr (6, [.ref a1, .int 0, .int (-1), .ref n0, .ref r0, .ref j0, .ref p0])), (r0, .inr (4, [.ref n0, .ref a1, .ref a2, .ref a3, .int 0, .int 0, .int 0, .int 0, .int (-1)]))] := hD
  refine W.widen (k := 0) (n := 0) (Nat.le_of_ble_eq_true rfl) (Nat.le_of_ble_eq_true rfl) ?_
  refine lv_aload_n hx hb dX6_infer_4 rfl (lv_at hl 0 rfl) ?_
  refine va_get (D := (dC, dI)) (ci := 6) (v := .ref r0) (C := RX6) (T := TX6) (N := 7) hx hb hg i_X6 hown hK hP 0 rfl rfl 4 (by decide) (hg _ k_84) (fun _ h9 => h9) rfl dX6_infer_5 ?_
  have hPc := hP.sub (ws' := [(r0, .inr (4, [.ref n0, .ref a1, .ref a2, .ref a3, .int 0, .int 0, .int 0, .int 0, .int (-1)]))]) [1] rfl
  have hDc := hD.sub (ws' := [(r0, .inr (4, [.ref n0, .ref a1, .ref a2, .ref a3, .int 0, .int 0, .int 0, .int 0, .int (-1)]))]) [1] (by decide) rfl
  have hFc := va_free (wc := [(r0, .inr (4, [.ref n0, .ref a1, .ref a2, .ref a3, .int 0, .int 0, .int 0, .int 0, .int (-1)]))]) hD hS hA [1] rfl
  refine va_calli (va_runV (As := []) (rest := []) ⟨hx, hb, hml, hown, hg⟩ (c_X4_wholeTerm l dC dI cI cZ cL r0 (Array.size _) n0 a1 a2 a3) (cwV 0 hg (gw_V k_281 k_282 k_283 k_81 g_yX4_wholeTerm) rfl rfl rfl (by decide +kernel) ⟨(Nat.le_of_ble_eq_true rfl), (Nat.le_of_ble_eq_true rfl)⟩) ⟨hp_bl, va_recv hK hPc (ci := 4) (q0 := 0) rfl rfl, fun U hU hW => hp_ok hU hW hPc hK hDc⟩ rfl rfl hl.1 rfl (lv_room (Nat.le_of_ble_eq_true rfl)) dX6_infer_8 ⟨(Nat.le_of_ble_eq_true rfl), (Nat.le_of_ble_eq_true rfl)⟩) hS (fun q _ h => hFc q h) hFc (fun r9 u t H locs ht hvm hw hB hz1 hk1 hS => ?_)
  obtain ⟨hP1, hD1⟩ := hB
  rw [ht] at hP1
  obtain ⟨hP, hD⟩ := va_join (wr := [(h0, .inr (6, [.ref a1, .int 0, .int (-1), .ref n0, .ref r0, .ref j0, .ref p0]))]) (w1 := [(r0, .inr (4, [.ref n0, .ref a1, .ref a2, .ref a3, .int 0, .int 0, .int 0, .int 0, .int 0]))]) hP hD [1] [0] rfl rfl (by decide) (by decide) hk1 hFc hP1 hD1
  have hP : va_P (dC, dI) vwCl [(h0, .inr (6, [.ref a1, .int 0, .int (-1), .ref n0, .ref r0, .ref j0, .ref p0])), (r0, .inr (4, [.ref n0, .ref a1, .ref a2, .ref a3, .int 0, .int 0, .int 0, .int 0, .int 0]))] H := hP
  have hD : va_D A [(h0, .inr (6, [.ref a1, .int 0, .int (-1), .ref n0, .ref r0, .ref j0, .ref p0])), (r0, .inr (4, [.ref n0, .ref a1, .ref a2, .ref a3, .int 0, .int 0, .int 0, .int 0, .int 0]))] := hD
  refine W.widen (k := 0) (n := 0) (Nat.le_of_ble_eq_true rfl) (Nat.le_of_ble_eq_true rfl) ?_
  obtain rfl : r9 = (-1) := hw
  refine lv_istore_n (lv' := [(1, .int (-1)), (0, .ref h0)]) hx hb dX6_infer_11 rfl hl (by decide) rfl (fun ls hl => ?_)
  refine lv_aload_n hx hb dX6_infer_12 rfl (lv_at hl 1 rfl) ?_
  refine lv_aload_n hx hb dX6_infer_13 rfl (lv_at hl 1 rfl) ?_
  refine va_get (D := (dC, dI)) (ci := 6) (v := .ref r0) (C := RX6) (T := TX6) (N := 7) hx hb hg i_X6 hown hK hP 0 rfl rfl 4 (by decide) (hg _ k_84) (fun _ h9 => h9) rfl dX6_infer_14 ?_
  have hPc := hP.sub (ws' := [(r0, .inr (4, [.ref n0, .ref a1, .ref a2, .ref a3, .int 0, .int 0, .int 0, .int 0, .int 0]))]) [1] rfl
  have hDc := hD.sub (ws' := [(r0, .inr (4, [.ref n0, .ref a1, .ref a2, .ref a3, .int 0, .int 0, .int 0, .int 0, .int 0]))]) [1] (by decide) rfl
  have hFc := va_free (wc := [(r0, .inr (4, [.ref n0, .ref a1, .ref a2, .ref a3, .int 0, .int 0, .int 0, .int 0, .int 0]))]) hD hS hA [1] rfl
  refine va_calli (va_runV (As := []) (rest := [.ref h0]) ⟨hx, hb, hml, hown, hg⟩ (c_X4_wrongAt l dC dI cI cZ cL r0 (Array.size _) n0 a1 a2 a3) (cwV 0 hg (gw_V k_284 k_285 k_286 k_81 g_yX4_wrongAt) rfl rfl rfl (by decide +kernel) ⟨(Nat.le_of_ble_eq_true rfl), (Nat.le_of_ble_eq_true rfl)⟩) ⟨hp_bl, va_recv hK hPc (ci := 4) (q0 := 0) rfl rfl, fun U hU hW => hp_ok hU hW hPc hK hDc⟩ rfl rfl hl.1 rfl (lv_room (Nat.le_of_ble_eq_true rfl)) dX6_infer_17 ⟨(Nat.le_of_ble_eq_true rfl), (Nat.le_of_ble_eq_true rfl)⟩) hS (fun q _ h => hFc q h) hFc (fun r9 u t H locs ht hvm hw hB hz1 hk1 hS => ?_)
  obtain ⟨hP1, hD1⟩ := hB
  rw [ht] at hP1
  obtain ⟨hP, hD⟩ := va_join (wr := [(h0, .inr (6, [.ref a1, .int 0, .int (-1), .ref n0, .ref r0, .ref j0, .ref p0]))]) (w1 := [(r0, .inr (4, [.ref n0, .ref a1, .ref a2, .ref a3, .int 0, .int 0, .int 0, .int 0, .int 0]))]) hP hD [1] [0] rfl rfl (by decide) (by decide) hk1 hFc hP1 hD1
  have hP : va_P (dC, dI) vwCl [(h0, .inr (6, [.ref a1, .int 0, .int (-1), .ref n0, .ref r0, .ref j0, .ref p0])), (r0, .inr (4, [.ref n0, .ref a1, .ref a2, .ref a3, .int 0, .int 0, .int 0, .int 0, .int 0]))] H := hP
  have hD : va_D A [(h0, .inr (6, [.ref a1, .int 0, .int (-1), .ref n0, .ref r0, .ref j0, .ref p0])), (r0, .inr (4, [.ref n0, .ref a1, .ref a2, .ref a3, .int 0, .int 0, .int 0, .int 0, .int 0]))] := hD
  refine W.widen (k := 0) (n := 0) (Nat.le_of_ble_eq_true rfl) (Nat.le_of_ble_eq_true rfl) ?_
  obtain rfl : r9 = 0 := hw
  refine va_put (D := (dC, dI)) (ci := 6) (v := .int 0) (ty := .int) (C := RX6) (T := TX6) (N := 7) hx hb hg i_X6 tyX6 tyX6_ok nmX6 hown hK hP hD hS 0 rfl rfl 2 (by decide) (hg _ k_73) (fun _ h9 => h9) rfl (by decide +kernel) rfl rfl (Nat.le_of_ble_eq_true rfl) dX6_infer_20 (fun H locs hP hD hS => ?_)
  have hP : va_P (dC, dI) vwCl [(h0, .inr (6, [.ref a1, .int 0, .int 0, .ref n0, .ref r0, .ref j0, .ref p0])), (r0, .inr (4, [.ref n0, .ref a1, .ref a2, .ref a3, .int 0, .int 0, .int 0, .int 0, .int 0]))] H := hP
  have hD : va_D A [(h0, .inr (6, [.ref a1, .int 0, .int 0, .ref n0, .ref r0, .ref j0, .ref p0])), (r0, .inr (4, [.ref n0, .ref a1, .ref a2, .ref a3, .int 0, .int 0, .int 0, .int 0, .int 0]))] := hD
  refine lv_aload_n hx hb dX6_infer_23 rfl (lv_at hl 1 rfl) ?_
  refine va_get (D := (dC, dI)) (ci := 6) (v := .int 0) (C := RX6) (T := TX6) (N := 7) hx hb hg i_X6 hown hK hP 0 rfl rfl 2 (by decide) (hg _ k_73) (fun _ h9 => h9) rfl dX6_infer_24 ?_
  refine lv_iconst (v := (-1)) hx hb dX6_infer_27 (by decide) ?_
  refine lv_icmp_eq (tgt := 41) hx hb dX6_infer_28 (by decide) (fun c9 => absurd c9 (by decide)) (fun _ => ?_)
  obtain ⟨hC1, hC2, ⟨hd1, hd2, hd3⟩, hU, hN, hT4⟩ := hE
  obtain ⟨⟨sa0, hs0⟩, ⟨sa1, hs1⟩, ⟨sa2, hs2⟩, sa3, hs3⟩ := hT4
  exact vx_throwS (own := RX6) (cls := "java/lang/IllegalArgumentException") (text := "the text is no term") (names := ["java/lang/RuntimeException", "java/lang/Exception"]) (ik := 52) (is := 75) (ic := 56) (sa := sa1) (A := A) hx hb hst hown (by decide +kernel) (by decide +kernel) (hg _ k_274) (hg _ k_275) hs1 (vx_hat (fun w h => hg w (at_I w h)) no_I (vx_c (va_Nw.use rfl hC1) (vx_c (va_Nw.use rfl hd1) (vx_c (va_Nw.use rfl hd2) (vx_c (va_Nw.use rfl hd3) vx_n))))) ot_I hU hN hS (by rw [hml]; exact hl.1) dX6_infer_31 dX6_infer_34 dX6_infer_35 dX6_infer_37 dX6_infer_40 (fun x h => (htb x h).elim) (Nat.le_of_ble_eq_true rfl) (Nat.le_of_ble_eq_true rfl) (Nat.le_of_ble_eq_true rfl) (Nat.le_of_ble_eq_true rfl) hlocks (fun t _ h1 h2 => ⟨(), trivial, rfl, fr_X hS h1 h2⟩) hS.2.2 (Nat.le_of_ble_eq_true rfl) (Nat.le_of_ble_eq_true rfl)

set_option maxHeartbeats 4000000 in
set_option maxRecDepth 100000 in
/-- below() with nothing fed: throws -/
theorem c_X6_below (l : Launch) (dC : Nat → ClassId) (dI : Nat → Nat → Nat) (cI cZ cL : ClassId) (h0 a1 n0 b1 b2 b3 b4 b5 r0 a2 j0 x0 p0 : Nat) (sz : Nat) (a3 j2 j3 j4 j5 c1 c2 p1 p2 : Nat) (hst : l.stackTraces = false) : vx_Met l yX6_below (wd yX6_below cX6_below 4 (some .boolean)) ({ frames := 6, cells := 1, slots := 6, locals := 85 }) (va_Pc [.ref h0] (hpx dC dI cI cZ cL sz [(h0, .inr (6, [.ref a1, .int 0, .int (-1), .ref n0, .ref r0, .ref j0, .ref p0])), (a1, .inl (cI, 60, .inl zI)), (n0, .inr (2, [.ref b1, .ref b2, .ref b3, .ref b4, .ref b5, .int 0])), (b1, .inl (cI, 4096, .inl zI)), (b2, .inl (cI, 4096, .inl zI)), (b3, .inl (cI, 4096, .inl zI)), (b4, .inl (cI, 4096, .inl zI)), (b5, .inl (cZ, 4096, .inl zI)), (r0, .inr (4, [.ref n0, .ref a1, .ref a2, .ref a3, .int 0, .int 0, .int 0, .int 0, .int (-1)])), (a2, .inl (cI, 26, .inl zI)), (j0, .inr (1, [.ref n0, .ref x0, .ref j2, .ref j3, .ref j4, .ref j5, .int 0, .int 0, .int (-1), .int 0, .int 0])), (x0, .inr (0, [.ref n0, .ref c1, .ref c2, .int 0])), (p0, .inr (3, [.ref n0, .ref p1, .ref p2, .int 0, .int (-1), .int 0]))])) (va_Qi (fun (r : Int32) (_ : Unit) => False) (fun (_ : Unit) t => va_P (dC, dI) vwCl [] t.heap ∧ va_D (va_A [(h0, .inr (6, [.ref a1, .int 0, .int (-1), .ref n0, .ref r0, .ref j0, .ref p0])), (a1, .inl (cI, 60, .inl zI)), (n0, .inr (2, [.ref b1, .ref b2, .ref b3, .ref b4, .ref b5, .int 0])), (b1, .inl (cI, 4096, .inl zI)), (b2, .inl (cI, 4096, .inl zI)), (b3, .inl (cI, 4096, .inl zI)), (b4, .inl (cI, 4096, .inl zI)), (b5, .inl (cZ, 4096, .inl zI)), (r0, .inr (4, [.ref n0, .ref a1, .ref a2, .ref a3, .int 0, .int 0, .int 0, .int 0, .int (-1)])), (a2, .inl (cI, 26, .inl zI)), (j0, .inr (1, [.ref n0, .ref x0, .ref j2, .ref j3, .ref j4, .ref j5, .int 0, .int 0, .int (-1), .int 0, .int 0])), (x0, .inr (0, [.ref n0, .ref c1, .ref c2, .int 0])), (p0, .inr (3, [.ref n0, .ref p1, .ref p2, .int 0, .int (-1), .int 0]))] sz) []) (va_A [(h0, .inr (6, [.ref a1, .int 0, .int (-1), .ref n0, .ref r0, .ref j0, .ref p0])), (a1, .inl (cI, 60, .inl zI)), (n0, .inr (2, [.ref b1, .ref b2, .ref b3, .ref b4, .ref b5, .int 0])), (b1, .inl (cI, 4096, .inl zI)), (b2, .inl (cI, 4096, .inl zI)), (b3, .inl (cI, 4096, .inl zI)), (b4, .inl (cI, 4096, .inl zI)), (b5, .inl (cZ, 4096, .inl zI)), (r0, .inr (4, [.ref n0, .ref a1, .ref a2, .ref a3, .int 0, .int 0, .int 0, .int 0, .int (-1)])), (a2, .inl (cI, 26, .inl zI)), (j0, .inr (1, [.ref n0, .ref x0, .ref j2, .ref j3, .ref j4, .ref j5, .int 0, .int 0, .int (-1), .int 0, .int 0])), (x0, .inr (0, [.ref n0, .ref c1, .ref c2, .int 0])), (p0, .inr (3, [.ref n0, .ref p1, .ref p2, .int 0, .int (-1), .int 0]))] sz)) (vx_X (fun (_ : Unit) => True) (fun E _ _ => E = "java/lang/IllegalArgumentException") (va_A [(h0, .inr (6, [.ref a1, .int 0, .int (-1), .ref n0, .ref r0, .ref j0, .ref p0])), (a1, .inl (cI, 60, .inl zI)), (n0, .inr (2, [.ref b1, .ref b2, .ref b3, .ref b4, .ref b5, .int 0])), (b1, .inl (cI, 4096, .inl zI)), (b2, .inl (cI, 4096, .inl zI)), (b3, .inl (cI, 4096, .inl zI)), (b4, .inl (cI, 4096, .inl zI)), (b5, .inl (cZ, 4096, .inl zI)), (r0, .inr (4, [.ref n0, .ref a1, .ref a2, .ref a3, .int 0, .int 0, .int 0, .int 0, .int (-1)])), (a2, .inl (cI, 26, .inl zI)), (j0, .inr (1, [.ref n0, .ref x0, .ref j2, .ref j3, .ref j4, .ref j5, .int 0, .int 0, .int (-1), .int 0, .int 0])), (x0, .inr (0, [.ref n0, .ref c1, .ref c2, .int 0])), (p0, .inr (3, [.ref n0, .ref p1, .ref p2, .int 0, .int (-1), .int 0]))] sz)) 1 6 (va_A [(h0, .inr (6, [.ref a1, .int 0, .int (-1), .ref n0, .ref r0, .ref j0, .ref p0])), (a1, .inl (cI, 60, .inl zI)), (n0, .inr (2, [.ref b1, .ref b2, .ref b3, .ref b4, .ref b5, .int 0])), (b1, .inl (cI, 4096, .inl zI)), (b2, .inl (cI, 4096, .inl zI)), (b3, .inl (cI, 4096, .inl zI)), (b4, .inl (cI, 4096, .inl zI)), (b5, .inl (cZ, 4096, .inl zI)), (r0, .inr (4, [.ref n0, .ref a1, .ref a2, .ref a3, .int 0, .int 0, .int 0, .int 0, .int (-1)])), (a2, .inl (cI, 26, .inl zI)), (j0, .inr (1, [.ref n0, .ref x0, .ref j2, .ref j3, .ref j4, .ref j5, .int 0, .int 0, .int (-1), .int 0, .int 0])), (x0, .inr (0, [.ref n0, .ref c1, .ref c2, .int 0])), (p0, .inr (3, [.ref n0, .ref p1, .ref p2, .int 0, .int (-1), .int 0]))] sz) := by
  refine vx_ofW (cc := cX6_below) (maxL := 4) (ret := (some .boolean)) (by decide) rfl ?_
  intro p e s m args below meth c s₁ B hml htb hv
  obtain ⟨rfl, hsz, hP, hK, hD0, hE0⟩ := hv
  have hx := B.exec
  have hb := B.bytes
  have hr := B.returns
  have hw9 := atoms_spec (ws := (wd yX6_below cX6_below 4 (some .boolean))) B.pre
  have hg := gw_hts hw9
  have hown : s.vm.findClass RX6 = some m.cls := findClass_of_methodNamed B.named
  have hlocks := B.notSynchronized
  subst hsz
  have hD := hD0.self (sz := s.heap.size)
  have hE := hE0
  generalize hAe : va_A [(h0, .inr (6, [.ref a1, .int 0, .int (-1), .ref n0, .ref r0, .ref j0, .ref p0])), (a1, .inl (cI, 60, .inl zI)), (n0, .inr (2, [.ref b1, .ref b2, .ref b3, .ref b4, .ref b5, .int 0])), (b1, .inl (cI, 4096, .inl zI)), (b2, .inl (cI, 4096, .inl zI)), (b3, .inl (cI, 4096, .inl zI)), (b4, .inl (cI, 4096, .inl zI)), (b5, .inl (cZ, 4096, .inl zI)), (r0, .inr (4, [.ref n0, .ref a1, .ref a2, .ref a3, .int 0, .int 0, .int 0, .int 0, .int (-1)])), (a2, .inl (cI, 26, .inl zI)), (j0, .inr (1, [.ref n0, .ref x0, .ref j2, .ref j3, .ref j4, .ref j5, .int 0, .int 0, .int (-1), .int 0, .int 0])), (x0, .inr (0, [.ref n0, .ref c1, .ref c2, .int 0])), (p0, .inr (3, [.ref n0, .ref p1, .ref p2, .int 0, .int (-1), .int 0]))] s.heap.size = A at hD hE ⊢
  have hA : ∀ q : Nat, s.heap.size ≤ q → A q := fun q h => by rw [← hAe]; exact Or.inr h
  have hS : va_S A s.heap s.heap [] := va_S.rf
  have hl := lv_entry ([.ref h0]) (n := 4) (Nat.le_of_ble_eq_true rfl)
  rw [lg_entry_eq]
  generalize (lg_sl ([.ref h0]) ++ List.replicate (4 - (lg_sl ([.ref h0])).length) Slot.unset).toArray = ls at hl ⊢
  have hl : lv_has ls 4 [(0, .ref h0)] := hl
  refine lv_aload_n hx hb dX6_below_0 rfl (lv_at hl 0 rfl) ?_
  have hPc := hP.sub (ws' := [(h0, .inr (6, [.ref a1, .int 0, .int (-1), .ref n0, .ref r0, .ref j0, .ref p0])), (a1, .inl (cI, 60, .inl zI)), (n0, .inr (2, [.ref b1, .ref b2, .ref b3, .ref b4, .ref b5, .int 0])), (b1, .inl (cI, 4096, .inl zI)), (b2, .inl (cI, 4096, .inl zI)), (b3, .inl (cI, 4096, .inl zI)), (b4, .inl (cI, 4096, .inl zI)), (b5, .inl (cZ, 4096, .inl zI)), (r0, .inr (4, [.ref n0, .ref a1, .ref a2, .ref a3, .int 0, .int 0, .int 0, .int 0, .int (-1)])), (a2, .inl (cI, 26, .inl zI)), (j0, .inr (1, [.ref n0, .ref x0, .ref j2, .ref j3, .ref j4, .ref j5, .int 0, .int 0, .int (-1), .int 0, .int 0])), (x0, .inr (0, [.ref n0, .ref c1, .ref c2, .int 0])), (p0, .inr (3, [.ref n0, .ref p1, .ref p2, .int 0, .int (-1), .int 0]))]) [0, 1, 2, 3, 4, 5, 6, 7, 8, 9, 10, 11, 12] rfl
  have hDc := hD.sub (ws' := [(h0, .inr (6, [.ref a1, .int 0, .int (-1), .ref n0, .ref r0, .ref j0, .ref p0])), (a1, .inl (cI, 60, .inl zI)), (n0, .inr (2, [.ref b1, .ref b2, .ref b3, .ref b4, .ref b5, .int 0])), (b1, .inl (cI, 4096, .inl zI)), (b2, .inl (cI, 4096, .inl zI)), (b3, .inl (cI, 4096, .inl zI)), (b4, .inl (cI, 4096, .inl zI)), (b5, .inl (cZ, 4096, .inl zI)), (r0, .inr (4, [.ref n0, .ref a1, .ref a2, .ref a3, .int 0, .int 0, .int 0, .int 0, .int (-1)])), (a2, .inl (cI, 26, .inl zI)), (j0, .inr (1, [.ref n0, .ref x0, .ref j2, .ref j3, .ref j4, .ref j5, .int 0, .int 0, .int (-1), .int 0, .int 0])), (x0, .inr (0, [.ref n0, .ref c1, .ref c2, .int 0])), (p0, .inr (3, [.ref n0, .ref p1, .ref p2, .int 0, .int (-1), .int 0]))]) [0, 1, 2, 3, 4, 5, 6, 7, 8, 9, 10, 11, 12] (by decide) rfl
  have hFc := va_free (wc := [(h0, .inr (6, [.ref a1, .int 0, .int (-1), .ref n0, .ref r0, .ref j0, .ref p0])), (a1, .inl (cI, 60, .inl zI)), (n0, .inr (2, [.ref b1, .ref b2, .ref b3, .ref b4, .ref b5, .int 0])), (b1, .inl (cI, 4096, .inl zI)), (b2, .inl (cI, 4096, .inl zI)), (b3, .inl (cI, 4096, .inl zI)), (b4, .inl (cI, 4096, .inl zI)), (b5, .inl (cZ, 4096, .inl zI)), (r0, .inr (4, [.ref n0, .ref a1, .ref a2, .ref a3, .int 0, .int 0, .int 0, .int 0, .int (-1)])), (a2, .inl (cI, 26, .inl zI)), (j0, .inr (1, [.ref n0, .ref x0, .ref j2, .ref j3, .ref j4, .ref j5, .int 0, .int 0, .int (-1), .int 0, .int 0])), (x0, .inr (0, [.ref n0, .ref c1, .ref c2, .int 0])), (p0, .inr (3, [.ref n0, .ref p1, .ref p2, .int 0, .int (-1), .int 0]))]) hD hS hA [0, 1, 2, 3, 4, 5, 6, 7, 8, 9, 10, 11, 12] rfl
  refine va_callv (va_runV (As := []) (rest := []) ⟨hx, hb, hml, hown, hg⟩ (c_X6_startText l dC dI cI cZ cL h0 a1 n0 b1 b2 b3 b4 b5 r0 a2 j0 x0 p0 (Array.size _) a3 j2 j3 j4 j5 c1 c2 p1 p2) (cwV 0 hg (gw_V k_277 k_278 k_279 k_280 g_yX6_startText) rfl rfl rfl (by decide +kernel) ⟨(Nat.le_of_ble_eq_true rfl), (Nat.le_of_ble_eq_true rfl)⟩) ⟨hp_bl, va_recv hK hPc (ci := 6) (q0 := 0) rfl rfl, fun U hU hW => hp_ok hU hW hPc hK hDc⟩ rfl rfl hl.1 rfl (lv_room (Nat.le_of_ble_eq_true rfl)) dX6_below_1 ⟨(Nat.le_of_ble_eq_true rfl), (Nat.le_of_ble_eq_true rfl)⟩) hS (fun q _ h => hFc q h) hFc (fun u t H locs ht hvm hw hB hz1 hk1 hS => ?_)
  obtain ⟨hP1, hD1⟩ := hB
  rw [ht] at hP1
  obtain ⟨hP, hD⟩ := va_join (wr := []) (w1 := [(h0, .inr (6, [.ref a1, .int 0, .int (-1), .ref n0, .ref r0, .ref j0, .ref p0])), (r0, .inr (4, [.ref n0, .ref a1, .ref a2, .ref a3, .int 0, .int 0, .int 0, .int 0, .int (-1)]))]) hP hD [0, 1, 2, 3, 4, 5, 6, 7, 8, 9, 10, 11, 12] [] rfl rfl (by decide) (by decide) hk1 hFc hP1 hD1
  have hP : va_P (dC, dI) vwCl [(h0, .inr (6, [.ref a1, .int 0, .int (-1), .ref n0, .ref r0, .ref j0, .ref p0])), (r0, .inr (4, [.ref n0, .ref a1, .ref a2, .ref a3, .int 0, .int 0, .int 0, .int 0, .int (-1)]))] H := hP
  have hD : va_D A [(h0, .inr (6, [.ref a1, .int 0, .int (-1), .ref n0, .ref r0, .ref j0, .ref p0])), (r0, .inr (4, [.ref n0, .ref a1, .ref a2, .ref a3, .int 0, .int 0, .int 0, .int 0, .int (-1)]))] := hD
  refine W.widen (k := 0) (n := 0) (Nat.le_of_ble_eq_true rfl) (Nat.le_of_ble_eq_true rfl) ?_
  refine lv_aload_n hx hb dX6_below_4 rfl (lv_at hl 0 rfl) ?_
  refine va_get (D := (dC, dI)) (ci := 6) (v := .ref r0) (C := RX6) (T := TX6) (N := 7) hx hb hg i_X6 hown hK hP 0 rfl rfl 4 (by decide) (hg _ k_84) (fun _ h9 => h9) rfl dX6_below_5 ?_
  have hPc := hP.sub (ws' := [(r0, .inr (4, [.ref n0, .ref a1, .ref a2, .ref a3, .int 0, .int 0, .int 0, .int 0, .int (-1)]))]) [1] rfl
  have hDc := hD.sub (ws' := [(r0, .inr (4, [.ref n0, .ref a1, .ref a2, .ref a3, .int 0, .int 0, .int 0, .int 0, .int (-1)]))]) [1] (by decide) rfl
  have hFc := va_free (wc := [(r0, .inr (4, [.ref n0, .ref a1, .ref a2, .ref a3, .int 0, .int 0, .int 0, .int 0, .int (-1)]))]) hD hS hA [1] rfl
  refine va_calli (va_runV (As := []) (rest := []) ⟨hx, hb, hml, hown, hg⟩ (c_X4_typeBeforeSign l dC dI cI cZ cL r0 (Array.size _) n0 a1 a2 a3) (cwV 0 hg (gw_V k_287 k_288 k_289 k_81 g_yX4_typeBeforeSign) rfl rfl rfl (by decide +kernel) ⟨(Nat.le_of_ble_eq_true rfl), (Nat.le_of_ble_eq_true rfl)⟩) ⟨hp_bl, va_recv hK hPc (ci := 4) (q0 := 0) rfl rfl, fun U hU hW => hp_ok hU hW hPc hK hDc⟩ rfl rfl hl.1 rfl (lv_room (Nat.le_of_ble_eq_true rfl)) dX6_below_8 ⟨(Nat.le_of_ble_eq_true rfl), (Nat.le_of_ble_eq_true rfl)⟩) hS (fun q _ h => hFc q h) hFc (fun r9 u t H locs ht hvm hw hB hz1 hk1 hS => ?_)
  obtain ⟨hP1, hD1⟩ := hB
  rw [ht] at hP1
  obtain ⟨hP, hD⟩ := va_join (wr := [(h0, .inr (6, [.ref a1, .int 0, .int (-1), .ref n0, .ref r0, .ref j0, .ref p0]))]) (w1 := [(r0, .inr (4, [.ref n0, .ref a1, .ref a2, .ref a3, .int 0, .int 0, .int 0, .int 0, .int 0]))]) hP hD [1] [0] rfl rfl (by decide) (by decide) hk1 hFc hP1 hD1
  have hP : va_P (dC, dI) vwCl [(h0, .inr (6, [.ref a1, .int 0, .int (-1), .ref n0, .ref r0, .ref j0, .ref p0])), (r0, .inr (4, [.ref n0, .ref a1, .ref a2, .ref a3, .int 0, .int 0, .int 0, .int 0, .int 0]))] H := hP
  have hD : va_D A [(h0, .inr (6, [.ref a1, .int 0, .int (-1), .ref n0, .ref r0, .ref j0, .ref p0])), (r0, .inr (4, [.ref n0, .ref a1, .ref a2, .ref a3, .int 0, .int 0, .int 0, .int 0, .int 0]))] := hD
  refine W.widen (k := 0) (n := 0) (Nat.le_of_ble_eq_true rfl) (Nat.le_of_ble_eq_true rfl) ?_
  obtain rfl : r9 = (-1) := hw
  refine lv_istore_n (lv' := [(1, .int (-1)), (0, .ref h0)]) hx hb dX6_below_11 rfl hl (by decide) rfl (fun ls hl => ?_)
  refine lv_aload_n hx hb dX6_below_12 rfl (lv_at hl 1 rfl) ?_
  refine va_get (D := (dC, dI)) (ci := 6) (v := .ref r0) (C := RX6) (T := TX6) (N := 7) hx hb hg i_X6 hown hK hP 0 rfl rfl 4 (by decide) (hg _ k_84) (fun _ h9 => h9) rfl dX6_below_13 ?_
  have hPc := hP.sub (ws' := [(r0, .inr (4, [.ref n0, .ref a1, .ref a2, .ref a3, .int 0, .int 0, .int 0, .int 0, .int 0]))]) [1] rfl
  have hDc := hD.sub (ws' := [(r0, .inr (4, [.ref n0, .ref a1, .ref a2, .ref a3, .int 0, .int 0, .int 0, .int 0, .int 0]))]) [1] (by decide) rfl
  have hFc := va_free (wc := [(r0, .inr (4, [.ref n0, .ref a1, .ref a2, .ref a3, .int 0, .int 0, .int 0, .int 0, .int 0]))]) hD hS hA [1] rfl
  refine va_calli (va_runV (As := []) (rest := []) ⟨hx, hb, hml, hown, hg⟩ (c_X4_typeBehindSign l dC dI cI cZ cL r0 (Array.size _) n0 a1 a2 a3) (cwV 0 hg (gw_V k_290 k_291 k_292 k_81 g_yX4_typeBehindSign) rfl rfl rfl (by decide +kernel) ⟨(Nat.le_of_ble_eq_true rfl), (Nat.le_of_ble_eq_true rfl)⟩) ⟨hp_bl, va_recv hK hPc (ci := 4) (q0 := 0) rfl rfl, fun U hU hW => hp_ok hU hW hPc hK hDc⟩ rfl rfl hl.1 rfl (lv_room (Nat.le_of_ble_eq_true rfl)) dX6_below_16 ⟨(Nat.le_of_ble_eq_true rfl), (Nat.le_of_ble_eq_true rfl)⟩) hS (fun q _ h => hFc q h) hFc (fun r9 u t H locs ht hvm hw hB hz1 hk1 hS => ?_)
  obtain ⟨hP1, hD1⟩ := hB
  rw [ht] at hP1
  obtain ⟨hP, hD⟩ := va_join (wr := [(h0, .inr (6, [.ref a1, .int 0, .int (-1), .ref n0, .ref r0, .ref j0, .ref p0]))]) (w1 := [(r0, .inr (4, [.ref n0, .ref a1, .ref a2, .ref a3, .int 0, .int 0, .int 0, .int 0, .int 0]))]) hP hD [1] [0] rfl rfl (by decide) (by decide) hk1 hFc hP1 hD1
  have hP : va_P (dC, dI) vwCl [(h0, .inr (6, [.ref a1, .int 0, .int (-1), .ref n0, .ref r0, .ref j0, .ref p0])), (r0, .inr (4, [.ref n0, .ref a1, .ref a2, .ref a3, .int 0, .int 0, .int 0, .int 0, .int 0]))] H := hP
  have hD : va_D A [(h0, .inr (6, [.ref a1, .int 0, .int (-1), .ref n0, .ref r0, .ref j0, .ref p0])), (r0, .inr (4, [.ref n0, .ref a1, .ref a2, .ref a3, .int 0, .int 0, .int 0, .int 0, .int 0]))] := hD
  refine W.widen (k := 0) (n := 0) (Nat.le_of_ble_eq_true rfl) (Nat.le_of_ble_eq_true rfl) ?_
  obtain rfl : r9 = (-1) := hw
  refine lv_istore_n (lv' := [(2, .int (-1)), (1, .int (-1)), (0, .ref h0)]) hx hb dX6_below_19 rfl hl (by decide) rfl (fun ls hl => ?_)
  refine lv_aload_n hx hb dX6_below_20 rfl (lv_at hl 2 rfl) ?_
  refine lv_aload_n hx hb dX6_below_21 rfl (lv_at hl 2 rfl) ?_
  refine va_get (D := (dC, dI)) (ci := 6) (v := .ref r0) (C := RX6) (T := TX6) (N := 7) hx hb hg i_X6 hown hK hP 0 rfl rfl 4 (by decide) (hg _ k_84) (fun _ h9 => h9) rfl dX6_below_22 ?_
  have hPc := hP.sub (ws' := [(r0, .inr (4, [.ref n0, .ref a1, .ref a2, .ref a3, .int 0, .int 0, .int 0, .int 0, .int 0]))]) [1] rfl
  have hDc := hD.sub (ws' := [(r0, .inr (4, [.ref n0, .ref a1, .ref a2, .ref a3, .int 0, .int 0, .int 0, .int 0, .int 0]))]) [1] (by decide) rfl
  have hFc := va_free (wc := [(r0, .inr (4, [.ref n0, .ref a1, .ref a2, .ref a3, .int 0, .int 0, .int 0, .int 0, .int 0]))]) hD hS hA [1] rfl
  refine va_calli (va_runV (As := []) (rest := [.ref h0]) ⟨hx, hb, hml, hown, hg⟩ (c_X4_wrongAt l dC dI cI cZ cL r0 (Array.size _) n0 a1 a2 a3) (cwV 0 hg (gw_V k_284 k_285 k_286 k_81 g_yX4_wrongAt) rfl rfl rfl (by decide +kernel) ⟨(Nat.le_of_ble_eq_true rfl), (Nat.le_of_ble_eq_true rfl)⟩) ⟨hp_bl, va_recv hK hPc (ci := 4) (q0 := 0) rfl rfl, fun U hU hW => hp_ok hU hW hPc hK hDc⟩ rfl rfl hl.1 rfl (lv_room (Nat.le_of_ble_eq_true rfl)) dX6_below_25 ⟨(Nat.le_of_ble_eq_true rfl), (Nat.le_of_ble_eq_true rfl)⟩) hS (fun q _ h => hFc q h) hFc (fun r9 u t H locs ht hvm hw hB hz1 hk1 hS => ?_)
  obtain ⟨hP1, hD1⟩ := hB
  rw [ht] at hP1
  obtain ⟨hP, hD⟩ := va_join (wr := [(h0, .inr (6, [.ref a1, .int 0, .int (-1), .ref n0, .ref r0, .ref j0, .ref p0]))]) (w1 := [(r0, .inr (4, [.ref n0, .ref a1, .ref a2, .ref a3, .int 0, .int 0, .int 0, .int 0, .int 0]))]) hP hD [1] [0] rfl rfl (by decide) (by decide) hk1 hFc hP1 hD1
  have hP : va_P (dC, dI) vwCl [(h0, .inr (6, [.ref a1, .int 0, .int (-1), .ref n0, .ref r0, .ref j0, .ref p0])), (r0, .inr (4, [.ref n0, .ref a1, .ref a2, .ref a3, .int 0, .int 0, .int 0, .int 0, .int 0]))] H := hP
  have hD : va_D A [(h0, .inr (6, [.ref a1, .int 0, .int (-1), .ref n0, .ref r0, .ref j0, .ref p0])), (r0, .inr (4, [.ref n0, .ref a1, .ref a2, .ref a3, .int 0, .int 0, .int 0, .int 0, .int 0]))] := hD
  refine W.widen (k := 0) (n := 0) (Nat.le_of_ble_eq_true rfl) (Nat.le_of_ble_eq_true rfl) ?_
  obtain rfl : r9 = 0 := hw
  refine va_put (D := (dC, dI)) (ci := 6) (v := .int 0) (ty := .int) (C := RX6) (T := TX6) (N := 7) hx hb hg i_X6 tyX6 tyX6_ok nmX6 hown hK hP hD hS 0 rfl rfl 2 (by decide) (hg _ k_73) (fun _ h9 => h9) rfl (by decide +kernel) rfl rfl (Nat.le_of_ble_eq_true rfl) dX6_below_28 (fun H locs hP hD hS => ?_)
  have hP : va_P (dC, dI) vwCl [(h0, .inr (6, [.ref a1, .int 0, .int 0, .ref n0, .ref r0, .ref j0, .ref p0])), (r0, .inr (4, [.ref n0, .ref a1, .ref a2, .ref a3, .int 0, .int 0, .int 0, .int 0, .int 0]))] H := hP
  have hD : va_D A [(h0, .inr (6, [.ref a1, .int 0, .int 0, .ref n0, .ref r0, .ref j0, .ref p0])), (r0, .inr (4, [.ref n0, .ref a1, .ref a2, .ref a3, .int 0, .int 0, .int 0, .int 0, .int 0]))] := hD
  refine lv_aload_n hx hb dX6_below_31 rfl (lv_at hl 2 rfl) ?_
  refine va_get (D := (dC, dI)) (ci := 6) (v := .int 0) (C := RX6) (T := TX6) (N := 7) hx hb hg i_X6 hown hK hP 0 rfl rfl 2 (by decide) (hg _ k_73) (fun _ h9 => h9) rfl dX6_below_32 ?_
  refine lv_iconst (v := (-1)) hx hb dX6_below_35 (by decide) ?_
  refine lv_icmp_eq (tgt := 49) hx hb dX6_below_36 (by decide) (fun c9 => absurd c9 (by decide)) (fun _ => ?_)
  obtain ⟨hC1, hC2, ⟨hd1, hd2, hd3⟩, hU, hN, hT4⟩ := hE
  obtain ⟨⟨sa0, hs0⟩, ⟨sa1, hs1⟩, ⟨sa2, hs2⟩, sa3, hs3⟩ := hT4
  exact vx_throwS (own := RX6) (cls := "java/lang/IllegalArgumentException") (text := "the text is no pair of types") (names := ["java/lang/RuntimeException", "java/lang/Exception"]) (ik := 52) (is := 97) (ic := 56) (sa := sa2) (A := A) hx hb hst hown (by decide +kernel) (by decide +kernel) (hg _ k_274) (hg _ k_275) hs2 (vx_hat (fun w h => hg w (at_I w h)) no_I (vx_c (va_Nw.use rfl hC1) (vx_c (va_Nw.use rfl hd1) (vx_c (va_Nw.use rfl hd2) (vx_c (va_Nw.use rfl hd3) vx_n))))) ot_I hU hN hS (by rw [hml]; exact hl.1) dX6_below_39 dX6_below_42 dX6_below_43 dX6_below_45 dX6_below_48 (fun x h => (htb x h).elim) (Nat.le_of_ble_eq_true rfl) (Nat.le_of_ble_eq_true rfl) (Nat.le_of_ble_eq_true rfl) (Nat.le_of_ble_eq_true rfl) hlocks (fun t _ h1 h2 => ⟨(), trivial, rfl, fr_X hS h1 h2⟩) hS.2.2 (Nat.le_of_ble_eq_true rfl) (Nat.le_of_ble_eq_true rfl)

set_option maxHeartbeats 4000000 in
set_option maxRecDepth 100000 in
/-- out(i), i < 0: throws -/
theorem c_X6_outN (l : Launch) (dC : Nat → ClassId) (dI : Nat → Nat → Nat) (cI cZ cL : ClassId) (h0 p0 n0 : Nat) (sz : Nat) (r0 j0 a1 p1 p2 b1 b2 b3 b4 b5 : Nat) (x : Int32) (hst : l.stackTraces = false) (hn : x < 0) : vx_Met l yX6_out (wd yX6_out cX6_out 2 (some .int)) ({ frames := 6, cells := 1, slots := 6, locals := 82 }) (va_Pc [.ref h0, .int x] (hpx dC dI cI cZ cL sz [(h0, .inr (6, [.ref a1, .int 0, .int (-1), .ref n0, .ref r0, .ref j0, .ref p0])), (p0, .inr (3, [.ref n0, .ref p1, .ref p2, .int 0, .int (-1), .int 0])), (n0, .inr (2, [.ref b1, .ref b2, .ref b3, .ref b4, .ref b5, .int 0]))])) (va_Qi (fun (r : Int32) (_ : Unit) => False) (fun (_ : Unit) t => va_P (dC, dI) vwCl [] t.heap ∧ va_D (va_A [(h0, .inr (6, [.ref a1, .int 0, .int (-1), .ref n0, .ref r0, .ref j0, .ref p0])), (p0, .inr (3, [.ref n0, .ref p1, .ref p2, .int 0, .int (-1), .int 0])), (n0, .inr (2, [.ref b1, .ref b2, .ref b3, .ref b4, .ref b5, .int 0]))] sz) []) (va_A [(h0, .inr (6, [.ref a1, .int 0, .int (-1), .ref n0, .ref r0, .ref j0, .ref p0])), (p0, .inr (3, [.ref n0, .ref p1, .ref p2, .int 0, .int (-1), .int 0])), (n0, .inr (2, [.ref b1, .ref b2, .ref b3, .ref b4, .ref b5, .int 0]))] sz)) (vx_X (fun (_ : Unit) => True) (fun E _ _ => E = "java/lang/IndexOutOfBoundsException") (va_A [(h0, .inr (6, [.ref a1, .int 0, .int (-1), .ref n0, .ref r0, .ref j0, .ref p0])), (p0, .inr (3, [.ref n0, .ref p1, .ref p2, .int 0, .int (-1), .int 0])), (n0, .inr (2, [.ref b1, .ref b2, .ref b3, .ref b4, .ref b5, .int 0]))] sz)) 1 6 (va_A [(h0, .inr (6, [.ref a1, .int 0, .int (-1), .ref n0, .ref r0, .ref j0, .ref p0])), (p0, .inr (3, [.ref n0, .ref p1, .ref p2, .int 0, .int (-1), .int 0])), (n0, .inr (2, [.ref b1, .ref b2, .ref b3, .ref b4, .ref b5, .int 0]))] sz) := by
  refine vx_ofW (cc := cX6_out) (maxL := 2) (ret := (some .int)) (by decide) rfl ?_
  intro p e s m args below meth c s₁ B hml htb hv
  obtain ⟨rfl, hsz, hP, hK, hD0, hE0⟩ := hv
  have hx := B.exec
  have hb := B.bytes
  have hr := B.returns
  have hw9 := atoms_spec (ws := (wd yX6_out cX6_out 2 (some .int))) B.pre
  have hg := gw_hts hw9
  have hown : s.vm.findClass RX6 = some m.cls := findClass_of_methodNamed B.named
  have hlocks := B.notSynchronized
  subst hsz
  have hD := hD0.self (sz := s.heap.size)
  have hE := hE0
  generalize hAe : va_A [(h0, .inr (6, [.ref a1, .int 0, .int (-1), .ref n0, .ref r0, .ref j0, .ref p0])), (p0, .inr (3, [.ref n0, .ref p1, .ref p2, .int 0, .int (-1), .int 0])), (n0, .inr (2, [.ref b1, .ref b2, .ref b3, .ref b4, .ref b5, .int 0]))] s.heap.size = A at hD hE ⊢
  have hA : ∀ q : Nat, s.heap.size ≤ q → A q := fun q h => by rw [← hAe]; exact Or.inr h
  have hS : va_S A s.heap s.heap [] := va_S.rf
  have hl := lv_entry ([.ref h0, .int x]) (n := 2) (Nat.le_of_ble_eq_true rfl)
  rw [lg_entry_eq]
  generalize (lg_sl ([.ref h0, .int x]) ++ List.replicate (2 - (lg_sl ([.ref h0, .int x])).length) Slot.unset).toArray = ls at hl ⊢
  have hl : lv_has ls 2 [(0, .ref h0), (1, .int x)] := hl
  refine lv_iload_n hx hb dX6_out_0 rfl (lv_at hl 1 rfl) ?_
  refine lv_if_lt (tgt := 15) hx hb dX6_out_1 (by decide) (fun _ => ?_) (fun c9 => absurd hn c9)
  obtain ⟨hC1, hC2, ⟨hd1, hd2, hd3⟩, hU, hN, hT4⟩ := hE
  obtain ⟨⟨sa0, hs0⟩, ⟨sa1, hs1⟩, ⟨sa2, hs2⟩, sa3, hs3⟩ := hT4
  exact vx_throwS (own := RX6) (cls := "java/lang/IndexOutOfBoundsException") (text := "no such byte is printed") (names := ["java/lang/RuntimeException", "java/lang/Exception"]) (ik := 106) (is := 108) (ic := 110) (sa := sa3) (A := A) hx hb hst hown (by decide +kernel) (by decide +kernel) (hg _ k_293) (hg _ k_294) hs3 (vx_hat (fun w h => hg w (at_O w h)) no_O (vx_c (va_Nw.use rfl hC2) (vx_c (va_Nw.use rfl hd1) (vx_c (va_Nw.use rfl hd2) (vx_c (va_Nw.use rfl hd3) vx_n))))) ot_O hU hN hS (by rw [hml]; exact hl.1) dX6_out_15 dX6_out_18 dX6_out_19 dX6_out_21 dX6_out_24 (fun x h => (htb x h).elim) (Nat.le_of_ble_eq_true rfl) (Nat.le_of_ble_eq_true rfl) (Nat.le_of_ble_eq_true rfl) (Nat.le_of_ble_eq_true rfl) hlocks (fun t _ h1 h2 => ⟨(), trivial, rfl, fr_X hS h1 h2⟩) hS.2.2 (Nat.le_of_ble_eq_true rfl) (Nat.le_of_ble_eq_true rfl)

set_option maxHeartbeats 4000000 in
set_option maxRecDepth 100000 in
/-- out(i), 0 <= i: throws -/
theorem c_X6_outP (l : Launch) (dC : Nat → ClassId) (dI : Nat → Nat → Nat) (cI cZ cL : ClassId) (h0 p0 n0 : Nat) (sz : Nat) (r0 j0 a1 p1 p2 b1 b2 b3 b4 b5 : Nat) (x : Int32) (hst : l.stackTraces = false) (hn : ¬ x < 0) : vx_Met l yX6_out (wd yX6_out cX6_out 2 (some .int)) ({ frames := 6, cells := 1, slots := 6, locals := 82 }) (va_Pc [.ref h0, .int x] (hpx dC dI cI cZ cL sz [(h0, .inr (6, [.ref a1, .int 0, .int (-1), .ref n0, .ref r0, .ref j0, .ref p0])), (p0, .inr (3, [.ref n0, .ref p1, .ref p2, .int 0, .int (-1), .int 0])), (n0, .inr (2, [.ref b1, .ref b2, .ref b3, .ref b4, .ref b5, .int 0]))])) (va_Qi (fun (r : Int32) (_ : Unit) => False) (fun (_ : Unit) t => va_P (dC, dI) vwCl [] t.heap ∧ va_D (va_A [(h0, .inr (6, [.ref a1, .int 0, .int (-1), .ref n0, .ref r0, .ref j0, .ref p0])), (p0, .inr (3, [.ref n0, .ref p1, .ref p2, .int 0, .int (-1), .int 0])), (n0, .inr (2, [.ref b1, .ref b2, .ref b3, .ref b4, .ref b5, .int 0]))] sz) []) (va_A [(h0, .inr (6, [.ref a1, .int 0, .int (-1), .ref n0, .ref r0, .ref j0, .ref p0])), (p0, .inr (3, [.ref n0, .ref p1, .ref p2, .int 0, .int (-1), .int 0])), (n0, .inr (2, [.ref b1, .ref b2, .ref b3, .ref b4, .ref b5, .int 0]))] sz)) (vx_X (fun (_ : Unit) => True) (fun E _ _ => E = "java/lang/IndexOutOfBoundsException") (va_A [(h0, .inr (6, [.ref a1, .int 0, .int (-1), .ref n0, .ref r0, .ref j0, .ref p0])), (p0, .inr (3, [.ref n0, .ref p1, .ref p2, .int 0, .int (-1), .int 0])), (n0, .inr (2, [.ref b1, .ref b2, .ref b3, .ref b4, .ref b5, .int 0]))] sz)) 1 6 (va_A [(h0, .inr (6, [.ref a1, .int 0, .int (-1), .ref n0, .ref r0, .ref j0, .ref p0])), (p0, .inr (3, [.ref n0, .ref p1, .ref p2, .int 0, .int (-1), .int 0])), (n0, .inr (2, [.ref b1, .ref b2, .ref b3, .ref b4, .ref b5, .int 0]))] sz) := by
  refine vx_ofW (cc := cX6_out) (maxL := 2) (ret := (some .int)) (by decide) rfl ?_
  intro p e s m args below meth c s₁ B hml htb hv
  obtain ⟨rfl, hsz, hP, hK, hD0, hE0⟩ := hv
  have hx := B.exec
  have hb := B.bytes
  have hr := B.returns
  have hw9 := atoms_spec (ws := (wd yX6_out cX6_out 2 (some .int))) B.pre
  have hg := gw_hts hw9
  have hown : s.vm.findClass RX6 = some m.cls := findClass_of_methodNamed B.named
  have hlocks := B.notSynchronized
  subst hsz
  have hD := hD0.self (sz := s.heap.size)
  have hE := hE0
  generalize hAe : va_A [(h0, .inr (6, [.ref a1, .int 0, .int (-1), .ref n0, .ref r0, .ref j0, .ref p0])), (p0, .inr (3, [.ref n0, .ref p1, .ref p2, .int 0, .int (-1), .int 0])), (n0, .inr (2, [.ref b1, .ref b2, .ref b3, .ref b4, .ref b5, .int 0]))] s.heap.size = A at hD hE ⊢
  have hA : ∀ q : Nat, s.heap.size ≤ q → A q := fun q h => by rw [← hAe]; exact Or.inr h
  have hS : va_S A s.heap s.heap [] := va_S.rf
  have hl := lv_entry ([.ref h0, .int x]) (n := 2) (Nat.le_of_ble_eq_true rfl)
  rw [lg_entry_eq]
  generalize (lg_sl ([.ref h0, .int x]) ++ List.replicate (2 - (lg_sl ([.ref h0, .int x])).length) Slot.unset).toArray = ls at hl ⊢
  have hl : lv_has ls 2 [(0, .ref h0), (1, .int x)] := hl
  refine lv_iload_n hx hb dX6_out_0 rfl (lv_at hl 1 rfl) ?_
  refine lv_if_lt (tgt := 15) hx hb dX6_out_1 (by decide) (fun c9 => absurd c9 hn) (fun _ => ?_)
  refine lv_iload_n hx hb dX6_out_4 rfl (lv_at hl 1 rfl) ?_
  refine lv_aload_n hx hb dX6_out_5 rfl (lv_at hl 0 rfl) ?_
  refine va_get (D := (dC, dI)) (ci := 6) (v := .ref p0) (C := RX6) (T := TX6) (N := 7) hx hb hg i_X6 hown hK hP 0 rfl rfl 6 (by decide) (hg _ k_96) (fun _ h9 => h9) rfl dX6_out_6 ?_
  have hPc := hP.sub (ws' := [(p0, .inr (3, [.ref n0, .ref p1, .ref p2, .int 0, .int (-1), .int 0])), (n0, .inr (2, [.ref b1, .ref b2, .ref b3, .ref b4, .ref b5, .int 0]))]) [1, 2] rfl
  have hDc := hD.sub (ws' := [(p0, .inr (3, [.ref n0, .ref p1, .ref p2, .int 0, .int (-1), .int 0])), (n0, .inr (2, [.ref b1, .ref b2, .ref b3, .ref b4, .ref b5, .int 0]))]) [1, 2] (by decide) rfl
  have hFc := va_free (wc := [(p0, .inr (3, [.ref n0, .ref p1, .ref p2, .int 0, .int (-1), .int 0])), (n0, .inr (2, [.ref b1, .ref b2, .ref b3, .ref b4, .ref b5, .int 0]))]) hD hS hA [1, 2] rfl
  refine va_calli (va_runV (As := []) (rest := [.int x]) ⟨hx, hb, hml, hown, hg⟩ (c_X3_length l dC dI cI cZ cL p0 n0 (Array.size _) p1 p2 b1 b2 b3 b4 b5) (cwV 0 hg (gw_V k_200 k_201 k_202 k_93 g_yX3_length) rfl rfl rfl (by decide +kernel) ⟨(Nat.le_of_ble_eq_true rfl), (Nat.le_of_ble_eq_true rfl)⟩) ⟨hp_bl, va_recv hK hPc (ci := 3) (q0 := 0) rfl rfl, fun U hU hW => hp_ok hU hW hPc hK hDc⟩ rfl rfl hl.1 rfl (lv_room (Nat.le_of_ble_eq_true rfl)) dX6_out_9 ⟨(Nat.le_of_ble_eq_true rfl), (Nat.le_of_ble_eq_true rfl)⟩) hS (fun q _ h => hFc q h) hFc (fun r9 u t H locs ht hvm hw hB hz1 hk1 hS => ?_)
  obtain ⟨hP1, hD1⟩ := hB
  rw [ht] at hP1
  obtain ⟨hP, hD⟩ := va_join (wr := [(h0, .inr (6, [.ref a1, .int 0, .int (-1), .ref n0, .ref r0, .ref j0, .ref p0]))]) (w1 := [(p0, .inr (3, [.ref n0, .ref p1, .ref p2, .int 0, .int (-1), .int 0])), (n0, .inr (2, [.ref b1, .ref b2, .ref b3, .ref b4, .ref b5, .int 0]))]) hP hD [1, 2] [0] rfl rfl (by decide) (by decide) hk1 hFc hP1 hD1
  have hP : va_P (dC, dI) vwCl [(h0, .inr (6, [.ref a1, .int 0, .int (-1), .ref n0, .ref r0, .ref j0, .ref p0])), (p0, .inr (3, [.ref n0, .ref p1, .ref p2, .int 0, .int (-1), .int 0])), (n0, .inr (2, [.ref b1, .ref b2, .ref b3, .ref b4, .ref b5, .int 0]))] H := hP
  have hD : va_D A [(h0, .inr (6, [.ref a1, .int 0, .int (-1), .ref n0, .ref r0, .ref j0, .ref p0])), (p0, .inr (3, [.ref n0, .ref p1, .ref p2, .int 0, .int (-1), .int 0])), (n0, .inr (2, [.ref b1, .ref b2, .ref b3, .ref b4, .ref b5, .int 0]))] := hD
  refine W.widen (k := 0) (n := 0) (Nat.le_of_ble_eq_true rfl) (Nat.le_of_ble_eq_true rfl) ?_
  obtain rfl : r9 = 0 := hw
  refine lv_icmp_lt (tgt := 25) hx hb dX6_out_12 (by decide) (fun c9 => absurd c9 hn) (fun _ => ?_)
  obtain ⟨hC1, hC2, ⟨hd1, hd2, hd3⟩, hU, hN, hT4⟩ := hE
  obtain ⟨⟨sa0, hs0⟩, ⟨sa1, hs1⟩, ⟨sa2, hs2⟩, sa3, hs3⟩ := hT4
  exact vx_throwS (own := RX6) (cls := "java/lang/IndexOutOfBoundsException") (text := "no such byte is printed") (names := ["java/lang/RuntimeException", "java/lang/Exception"]) (ik := 106) (is := 108) (ic := 110) (sa := sa3) (A := A) hx hb hst hown (by decide +kernel) (by decide +kernel) (hg _ k_293) (hg _ k_294) hs3 (vx_hat (fun w h => hg w (at_O w h)) no_O (vx_c (va_Nw.use rfl hC2) (vx_c (va_Nw.use rfl hd1) (vx_c (va_Nw.use rfl hd2) (vx_c (va_Nw.use rfl hd3) vx_n))))) ot_O hU hN hS (by rw [hml]; exact hl.1) dX6_out_15 dX6_out_18 dX6_out_19 dX6_out_21 dX6_out_24 (fun x h => (htb x h).elim) (Nat.le_of_ble_eq_true rfl) (Nat.le_of_ble_eq_true rfl) (Nat.le_of_ble_eq_true rfl) (Nat.le_of_ble_eq_true rfl) hlocks (fun t _ h1 h2 => ⟨(), trivial, rfl, fr_X hS h1 h2⟩) hS.2.2 (Nat.le_of_ble_eq_true rfl) (Nat.le_of_ble_eq_true rfl)
