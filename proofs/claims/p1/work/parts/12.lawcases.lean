/-! THE CLAIM OUT OF ONE WALK OF THE LAW'S BODY. Your part is whole_start (and what it stands on); all else here is the same for every law, but numbers. -/
def R_law : String := "TypeBenchLaw"
def lw_P (b : Addr) (xs : List Int32) (args : Array Value) (s : State) : Prop := args = #[.ref b] ∧ s.IntsAt b xs ∧ xs.length ≤ 4 ∧ (Jvm.Cond.and given_1 narrow_1).before args s = true
def lw_Q (_ : Array Value) (s : State) (o : Outcome) (t : State) : Prop := o = .returned (some (.int 1)) ∧ Framed s o t [] 600002 7302232
def lw_Z (below : List Frame) (a : Array Value) (s : State) : State → Prop := fun t => ∃ o, t.status = .running ∧ Ended t below o ∧ lw_Q a s o t
/-- the law's own end, with 1 on the stack, nothing written that was there before, its room as the claim has it -/
theorem lw_ret {p : Program} {l : Launch} {e : Env} {s : State} {m : MethodId} {below : List Frame} {meth : Method} {c : Code} {b : Nat} (hx : p.tables.exec = Jvm.exec) (hb : c.code = code) (hr : meth.sig.returnType = ret) (hlocks : meth.locks = false) {pc : Nat} {H : Heap} {ls : Array Slot} (hdg : decode code pc = .ok (.ireturn, 1)) : W p l e room_1 s m #[Value.ref b] below meth c H [] 600002 7302232 (lw_Z below #[Value.ref b] s) (F0 m pc ls [.int 1]) := by
  intro T hT X
  obtain ⟨fs, hret, hrun, hended, hW, hframe⟩ := X.leave (v := some (.int 1)) (hlocks := hlocks) (fun h => by rw [hr] at h; cases h)
  have hmeth' : T.vm.method? m = some meth := X.method'
  refine ⟨T.setFrames fs, ?_, .returned (some (.int 1)), hrun, hended, rfl, ⟨_, rfl⟩, hW, hframe⟩
  jvm_step X.here [X.here.top, hx, hb, hdg, hmeth', hr, ret, narrow_b1]
  (try refine ⟨rfl, ?_⟩); (try refine ⟨rfl, ?_⟩)
  first | (intro acts; rw [hret _ acts rfl rfl rfl]) | rw [hret _ _ rfl rfl rfl]
  exact Steps.refl _
/-- what holds at the law's entry: the machine, the code, the tables' words (any of lw_tbl by 'hts w (by decide +kernel)'), the script of L ints xs at the cell b, what the Statement gives of the start (any of its parts by flat_of_before) -/
def lw_At (p : Program) (s : State) (m : MethodId) (meth : Method) (c : Code) (b L : Nat) (xs : Nat → Int32) : Prop :=
  p.tables.exec = Jvm.exec ∧ c.code = code ∧ meth.sig.returnType = ret ∧ c.maxLocals = 7 ∧ s.vm.findClass R_law = some m.cls ∧ (∀ w ∈ lw_tbl, w.before #[Value.ref b] s = true) ∧ va_X b L xs s s.heap ∧ b < s.heap.size ∧ meth.locks = false ∧ (Jvm.Cond.and given_1 narrow_1).before #[Value.ref b] s = true

set_option maxHeartbeats 4000000 in
set_option maxRecDepth 100000 in
/-- behind the one call: the loop ends, the law answers 1 -/
theorem law_tail {p : Program} {l : Launch} {e : Env} {s : State} {m : MethodId} {below : List Frame} {meth : Method} {c : Code} {b : Nat} {xs : Nat → Int32} {A : Nat → Prop} (hbA : ¬ A b) (hAf : ∀ q, A q → s.heap.size ≤ q) (C0 : lw_At p s m meth c b 4 xs) {H : Heap} {locs : List Loc} {k n : Nat} (hk : k ≤ 600002) (hn : n ≤ 7302232) (hS : va_S A s.heap H locs) {ls : Array Slot} (hl : lv_has ls 7 [(0, .ref b), (4, .int 0)]) : W p l e room_1 s m #[Value.ref b] below meth c H locs k n (lw_Z below #[Value.ref b] s) (F0 m 394 ls []) := by
  obtain ⟨hx, hb, hr, hml, hown, hts, hX, hbl, hlocks, hgv⟩ := C0
  refine lv_iinc (v := 4) (lv' := [(4, .int 4), (0, .ref b)]) hx hb dL_law_394 hl (k := 1) rfl (by decide) (by decide) rfl (fun ls hl => ?_)
  refine lv_goto (tgt := 23) hx hb dL_law_397 (by decide) ?_
  refine lv_iload hx hb dL_law_23 (lv_at hl 0 rfl) ?_
  refine lv_aload_n hx hb dL_law_25 rfl (lv_at hl 1 rfl) ?_
  refine va_slen hx hb hX hbl hbA hS dL_law_26 ?_
  refine lv_topi (fun z1 ez1 => ?_)
  obtain rfl : z1 = 4 := ez1
  refine lv_iconst (v := 4) hx hb dL_law_27 (by decide) ?_
  refine lv_isub hx hb dL_law_28 ?_
  refine lv_topi (fun z2 ez2 => ?_)
  obtain rfl : z2 = 0 := ez2.trans (by decide)
  refine lv_icmp_gt (tgt := 400) hx hb dL_law_29 (by decide) (fun _ => ?_) (fun c9 => absurd (by decide) c9)
  refine lv_iconst (v := 1) hx hb dL_law_400 (by decide) ?_
  refine va_forget (fun q hq => hAf _ (hS.2.2 q hq)) ?_
  refine W.widen (k := 600002) (n := 7302232) hk hn ?_
  exact lw_ret hx hb hr hlocks dL_law_401

set_option maxHeartbeats 4000000 in
set_option maxRecDepth 100000 in
theorem law_3 {p : Program} {l : Launch} {e : Env} {s : State} {m : MethodId} {below : List Frame} {meth : Method} {c : Code} {b : Nat} {xs : Nat → Int32} {dC : Nat → ClassId} {dI : Nat → Nat → Nat} {cI cZ cL : ClassId} {A : Nat → Prop} (hst : l.stackTraces = false) (hA : ∀ q : Nat, s.heap.size ≤ q → A q) (hbA : ¬ A b) (hAf : ∀ q, A q → s.heap.size ≤ q) (C0 : lw_At p s m meth c b 4 xs) (hK : va_K (dC, dI) vwCl (t3 cI cZ cL) s) (hE : ex A s) {h0 a1 n0 r0 j0 p0 g0 m1 m2 m3 m4 m5 m6 m7 m8 m9 m10 m11 m12 m13 m14 m15 m16 m17 m18 m19 m20 m21 o0 : Nat} {H : Heap} {locs : List Loc} (hP : va_P (dC, dI) vwCl [(h0, .inr (6, [.ref a1, .int 0, .int (-1), .ref n0, .ref r0, .ref j0, .ref p0])), (g0, .inr (7, [.int 0, .ref m1, .int 0, .int 0, .int 0, .int 0, .int (-1), .int 0, .int 0, .ref m2, .ref m3, .ref m4, .int 0, .ref m5, .ref m6, .ref m7, .int 0, .ref m8, .ref m9, .ref m10, .int 0, .int 0, .ref m11, .ref m12, .ref m13, .int 0, .int 0, .ref m14, .int 0, .ref m15, .ref m16, .ref m17, .int 0, .int 0, .ref m18, .ref m19, .ref m20, .int 0, .ref m21]))] H) (hD : va_D A [(h0, .inr (6, [.ref a1, .int 0, .int (-1), .ref n0, .ref r0, .ref j0, .ref p0])), (g0, .inr (7, [.int 0, .ref m1, .int 0, .int 0, .int 0, .int 0, .int (-1), .int 0, .int 0, .ref m2, .ref m3, .ref m4, .int 0, .ref m5, .ref m6, .ref m7, .int 0, .ref m8, .ref m9, .ref m10, .int 0, .int 0, .ref m11, .ref m12, .ref m13, .int 0, .int 0, .ref m14, .int 0, .ref m15, .ref m16, .ref m17, .int 0, .int 0, .ref m18, .ref m19, .ref m20, .int 0, .ref m21]))]) (hS : va_S A s.heap H locs) {ls : Array Slot} (hl : lv_has ls 7 [(0, .ref b), (1, .ref h0), (2, .ref g0), (3, .ref o0), (4, .int 0)]) : W p l e room_1 s m #[Value.ref b] below meth c H locs 47 729261 (lw_Z below #[Value.ref b] s) (F0 m 286 ls []) := by
  obtain ⟨hx, hb, hr, hml, hown, hts, hX, hbl, hlocks, hgv⟩ := id C0
  have hg : ∀ w ∈ gw_all, w.before #[Value.ref b] s = true := fun w h => hts w (gw_in w h)
  refine W.widen (k := 47) (n := 729261) (Nat.le_of_ble_eq_true rfl) (Nat.le_of_ble_eq_true rfl) ?_
  refine lv_aload_n hx hb dL_law_286 rfl (lv_at hl 1 rfl) ?_
  have hPc := hP.sub (ws' := [(h0, .inr (6, [.ref a1, .int 0, .int (-1), .ref n0, .ref r0, .ref j0, .ref p0]))]) [0] rfl
  have hDc := hD.sub (ws' := [(h0, .inr (6, [.ref a1, .int 0, .int (-1), .ref n0, .ref r0, .ref j0, .ref p0]))]) [0] (by decide) rfl
  have hFc := va_free (wc := [(h0, .inr (6, [.ref a1, .int 0, .int (-1), .ref n0, .ref r0, .ref j0, .ref p0]))]) hD hS hA [0] rfl
  refine va_calli (va_runV (As := []) (rest := []) ⟨hx, hb, hml, hown, hg⟩ (c_X6_place l dC dI cI cZ cL h0 (Array.size _) n0 r0 j0 p0 a1) (cwV 0 hg (gw_V k_309 k_310 k_311 k_280 g_yX6_place) rfl rfl rfl (by decide +kernel) ⟨(Nat.le_of_ble_eq_true rfl), (Nat.le_of_ble_eq_true rfl)⟩) ⟨hp_bl, va_recv hK hPc (ci := 6) (q0 := 0) rfl rfl, fun U hU hW => hp_ok hU hW hPc hK hDc⟩ rfl rfl hl.1 rfl (lv_room (Nat.le_of_ble_eq_true rfl)) dL_law_287 ⟨(Nat.le_of_ble_eq_true rfl), (Nat.le_of_ble_eq_true rfl)⟩) hS (fun q _ h => hFc q h) hFc (fun r9 u t H locs ht hvm hw hB hz1 hk1 hS => ?_)
  obtain ⟨hP1, hD1⟩ := hB
  rw [ht] at hP1
  obtain ⟨hP, hD⟩ := va_join (wr := [(g0, .inr (7, [.int 0, .ref m1, .int 0, .int 0, .int 0, .int 0, .int (-1), .int 0, .int 0, .ref m2, .ref m3, .ref m4, .int 0, .ref m5, .ref m6, .ref m7, .int 0, .ref m8, .ref m9, .ref m10, .int 0, .int 0, .ref m11, .ref m12, .ref m13, .int 0, .int 0, .ref m14, .int 0, .ref m15, .ref m16, .ref m17, .int 0, .int 0, .ref m18, .ref m19, .ref m20, .int 0, .ref m21]))]) (w1 := []) hP hD [0] [1] rfl rfl (by decide) (by decide) hk1 hFc hP1 hD1
  have hP : va_P (dC, dI) vwCl [(g0, .inr (7, [.int 0, .ref m1, .int 0, .int 0, .int 0, .int 0, .int (-1), .int 0, .int 0, .ref m2, .ref m3, .ref m4, .int 0, .ref m5, .ref m6, .ref m7, .int 0, .ref m8, .ref m9, .ref m10, .int 0, .int 0, .ref m11, .ref m12, .ref m13, .int 0, .int 0, .ref m14, .int 0, .ref m15, .ref m16, .ref m17, .int 0, .int 0, .ref m18, .ref m19, .ref m20, .int 0, .ref m21]))] H := hP
  have hD : va_D A [(g0, .inr (7, [.int 0, .ref m1, .int 0, .int 0, .int 0, .int 0, .int (-1), .int 0, .int 0, .ref m2, .ref m3, .ref m4, .int 0, .ref m5, .ref m6, .ref m7, .int 0, .ref m8, .ref m9, .ref m10, .int 0, .int 0, .ref m11, .ref m12, .ref m13, .int 0, .int 0, .ref m14, .int 0, .ref m15, .ref m16, .ref m17, .int 0, .int 0, .ref m18, .ref m19, .ref m20, .int 0, .ref m21]))] := hD
  refine W.widen (k := 47) (n := 729261) (Nat.le_of_ble_eq_true rfl) (Nat.le_of_ble_eq_true rfl) ?_
  obtain rfl : r9 = (-1) := hw
  refine lv_aload_n hx hb dL_law_290 rfl (lv_at hl 2 rfl) ?_
  have hPc := hP.sub (ws' := [(g0, .inr (7, [.int 0, .ref m1, .int 0, .int 0, .int 0, .int 0, .int (-1), .int 0, .int 0, .ref m2, .ref m3, .ref m4, .int 0, .ref m5, .ref m6, .ref m7, .int 0, .ref m8, .ref m9, .ref m10, .int 0, .int 0, .ref m11, .ref m12, .ref m13, .int 0, .int 0, .ref m14, .int 0, .ref m15, .ref m16, .ref m17, .int 0, .int 0, .ref m18, .ref m19, .ref m20, .int 0, .ref m21]))]) [0] rfl
  have hDc := hD.sub (ws' := [(g0, .inr (7, [.int 0, .ref m1, .int 0, .int 0, .int 0, .int 0, .int (-1), .int 0, .int 0, .ref m2, .ref m3, .ref m4, .int 0, .ref m5, .ref m6, .ref m7, .int 0, .ref m8, .ref m9, .ref m10, .int 0, .int 0, .ref m11, .ref m12, .ref m13, .int 0, .int 0, .ref m14, .int 0, .ref m15, .ref m16, .ref m17, .int 0, .int 0, .ref m18, .ref m19, .ref m20, .int 0, .ref m21]))]) [0] (by decide) rfl
  have hFc := va_free (wc := [(g0, .inr (7, [.int 0, .ref m1, .int 0, .int 0, .int 0, .int 0, .int (-1), .int 0, .int 0, .ref m2, .ref m3, .ref m4, .int 0, .ref m5, .ref m6, .ref m7, .int 0, .ref m8, .ref m9, .ref m10, .int 0, .int 0, .ref m11, .ref m12, .ref m13, .int 0, .int 0, .ref m14, .int 0, .ref m15, .ref m16, .ref m17, .int 0, .int 0, .ref m18, .ref m19, .ref m20, .int 0, .ref m21]))]) hD hS hA [0] rfl
  refine va_calli (va_runV (As := []) (rest := [.int (-1)]) ⟨hx, hb, hml, hown, hg⟩ (c_X7_place l dC dI cI cZ cL g0 (Array.size _) m1 m2 m3 m4 m5 m6 m7 m8 m9 m10 m11 m12 m13 m14 m15 m16 m17 m18 m19 m20 m21) (cwV 0 hg (gw_V k_312 k_313 k_314 k_245 g_yX7_place) rfl rfl rfl (by decide +kernel) ⟨(Nat.le_of_ble_eq_true rfl), (Nat.le_of_ble_eq_true rfl)⟩) ⟨hp_bl, va_recv hK hPc (ci := 7) (q0 := 0) rfl rfl, fun U hU hW => hp_ok hU hW hPc hK hDc⟩ rfl rfl hl.1 rfl (lv_room (Nat.le_of_ble_eq_true rfl)) dL_law_291 ⟨(Nat.le_of_ble_eq_true rfl), (Nat.le_of_ble_eq_true rfl)⟩) hS (fun q _ h => hFc q h) hFc (fun r9 u t H locs ht hvm hw hB hz1 hk1 hS => ?_)
  obtain ⟨hP1, hD1⟩ := hB
  rw [ht] at hP1
  obtain ⟨hP, hD⟩ := va_join (wr := []) (w1 := []) hP hD [0] [] rfl rfl (by decide) (by decide) hk1 hFc hP1 hD1
  have hP : va_P (dC, dI) vwCl [] H := hP
  have hD : va_D A [] := hD
  refine W.widen (k := 47) (n := 729261) (Nat.le_of_ble_eq_true rfl) (Nat.le_of_ble_eq_true rfl) ?_
  obtain rfl : r9 = (-1) := hw
  refine lv_icmp_eq (tgt := 394) hx hb dL_law_294 (by decide) (fun _ => ?_) (fun c9 => absurd (by decide) c9)
  exact law_tail hbA hAf C0 (Nat.le_of_ble_eq_true rfl) (Nat.le_of_ble_eq_true rfl) hS (lv_sub hl [0, 4] rfl)

set_option maxHeartbeats 4000000 in
set_option maxRecDepth 100000 in
theorem law_4 {p : Program} {l : Launch} {e : Env} {s : State} {m : MethodId} {below : List Frame} {meth : Method} {c : Code} {b : Nat} {xs : Nat → Int32} {dC : Nat → ClassId} {dI : Nat → Nat → Nat} {cI cZ cL : ClassId} {A : Nat → Prop} (hst : l.stackTraces = false) (hA : ∀ q : Nat, s.heap.size ≤ q → A q) (hbA : ¬ A b) (hAf : ∀ q, A q → s.heap.size ≤ q) (C0 : lw_At p s m meth c b 4 xs) (hK : va_K (dC, dI) vwCl (t3 cI cZ cL) s) (hE : ex A s) {h0 a1 n0 r0 j0 p0 p1 p2 b1 b2 b3 b4 b5 g0 m1 m2 m3 m4 m5 m6 m7 m8 m9 m10 m11 m12 m13 m14 m15 m16 m17 m18 m19 m20 m21 o0 : Nat} {H : Heap} {locs : List Loc} (hP : va_P (dC, dI) vwCl [(h0, .inr (6, [.ref a1, .int 0, .int (-1), .ref n0, .ref r0, .ref j0, .ref p0])), (p0, .inr (3, [.ref n0, .ref p1, .ref p2, .int 0, .int (-1), .int 0])), (n0, .inr (2, [.ref b1, .ref b2, .ref b3, .ref b4, .ref b5, .int 0])), (g0, .inr (7, [.int 0, .ref m1, .int 0, .int 0, .int 0, .int 0, .int (-1), .int 0, .int 0, .ref m2, .ref m3, .ref m4, .int 0, .ref m5, .ref m6, .ref m7, .int 0, .ref m8, .ref m9, .ref m10, .int 0, .int 0, .ref m11, .ref m12, .ref m13, .int 0, .int 0, .ref m14, .int 0, .ref m15, .ref m16, .ref m17, .int 0, .int 0, .ref m18, .ref m19, .ref m20, .int 0, .ref m21]))] H) (hD : va_D A [(h0, .inr (6, [.ref a1, .int 0, .int (-1), .ref n0, .ref r0, .ref j0, .ref p0])), (p0, .inr (3, [.ref n0, .ref p1, .ref p2, .int 0, .int (-1), .int 0])), (n0, .inr (2, [.ref b1, .ref b2, .ref b3, .ref b4, .ref b5, .int 0])), (g0, .inr (7, [.int 0, .ref m1, .int 0, .int 0, .int 0, .int 0, .int (-1), .int 0, .int 0, .ref m2, .ref m3, .ref m4, .int 0, .ref m5, .ref m6, .ref m7, .int 0, .ref m8, .ref m9, .ref m10, .int 0, .int 0, .ref m11, .ref m12, .ref m13, .int 0, .int 0, .ref m14, .int 0, .ref m15, .ref m16, .ref m17, .int 0, .int 0, .ref m18, .ref m19, .ref m20, .int 0, .ref m21]))]) (hS : va_S A s.heap H locs) {ls : Array Slot} (hl : lv_has ls 7 [(0, .ref b), (1, .ref h0), (2, .ref g0), (3, .ref o0), (4, .int 0)]) : W p l e room_1 s m #[Value.ref b] below meth c H locs 47 729261 (lw_Z below #[Value.ref b] s) (F0 m 299 ls []) := by
  obtain ⟨hx, hb, hr, hml, hown, hts, hX, hbl, hlocks, hgv⟩ := id C0
  have hg : ∀ w ∈ gw_all, w.before #[Value.ref b] s = true := fun w h => hts w (gw_in w h)
  refine W.widen (k := 47) (n := 729261) (Nat.le_of_ble_eq_true rfl) (Nat.le_of_ble_eq_true rfl) ?_
  refine lv_aload_n hx hb dL_law_299 rfl (lv_at hl 1 rfl) ?_
  have hPc := hP.sub (ws' := [(h0, .inr (6, [.ref a1, .int 0, .int (-1), .ref n0, .ref r0, .ref j0, .ref p0])), (p0, .inr (3, [.ref n0, .ref p1, .ref p2, .int 0, .int (-1), .int 0])), (n0, .inr (2, [.ref b1, .ref b2, .ref b3, .ref b4, .ref b5, .int 0]))]) [0, 1, 2] rfl
  have hDc := hD.sub (ws' := [(h0, .inr (6, [.ref a1, .int 0, .int (-1), .ref n0, .ref r0, .ref j0, .ref p0])), (p0, .inr (3, [.ref n0, .ref p1, .ref p2, .int 0, .int (-1), .int 0])), (n0, .inr (2, [.ref b1, .ref b2, .ref b3, .ref b4, .ref b5, .int 0]))]) [0, 1, 2] (by decide) rfl
  have hFc := va_free (wc := [(h0, .inr (6, [.ref a1, .int 0, .int (-1), .ref n0, .ref r0, .ref j0, .ref p0])), (p0, .inr (3, [.ref n0, .ref p1, .ref p2, .int 0, .int (-1), .int 0])), (n0, .inr (2, [.ref b1, .ref b2, .ref b3, .ref b4, .ref b5, .int 0]))]) hD hS hA [0, 1, 2] rfl
  refine va_calli (va_runV (As := []) (rest := []) ⟨hx, hb, hml, hown, hg⟩ (c_X6_size l dC dI cI cZ cL h0 p0 n0 (Array.size _) r0 j0 a1 p1 p2 b1 b2 b3 b4 b5) (cwV 0 hg (gw_V k_315 k_316 k_317 k_280 g_yX6_size) rfl rfl rfl (by decide +kernel) ⟨(Nat.le_of_ble_eq_true rfl), (Nat.le_of_ble_eq_true rfl)⟩) ⟨hp_bl, va_recv hK hPc (ci := 6) (q0 := 0) rfl rfl, fun U hU hW => hp_ok hU hW hPc hK hDc⟩ rfl rfl hl.1 rfl (lv_room (Nat.le_of_ble_eq_true rfl)) dL_law_300 ⟨(Nat.le_of_ble_eq_true rfl), (Nat.le_of_ble_eq_true rfl)⟩) hS (fun q _ h => hFc q h) hFc (fun r9 u t H locs ht hvm hw hB hz1 hk1 hS => ?_)
  obtain ⟨hP1, hD1⟩ := hB
  rw [ht] at hP1
  obtain ⟨hP, hD⟩ := va_join (wr := [(g0, .inr (7, [.int 0, .ref m1, .int 0, .int 0, .int 0, .int 0, .int (-1), .int 0, .int 0, .ref m2, .ref m3, .ref m4, .int 0, .ref m5, .ref m6, .ref m7, .int 0, .ref m8, .ref m9, .ref m10, .int 0, .int 0, .ref m11, .ref m12, .ref m13, .int 0, .int 0, .ref m14, .int 0, .ref m15, .ref m16, .ref m17, .int 0, .int 0, .ref m18, .ref m19, .ref m20, .int 0, .ref m21]))]) (w1 := []) hP hD [0, 1, 2] [3] rfl rfl (by decide) (by decide) hk1 hFc hP1 hD1
  have hP : va_P (dC, dI) vwCl [(g0, .inr (7, [.int 0, .ref m1, .int 0, .int 0, .int 0, .int 0, .int (-1), .int 0, .int 0, .ref m2, .ref m3, .ref m4, .int 0, .ref m5, .ref m6, .ref m7, .int 0, .ref m8, .ref m9, .ref m10, .int 0, .int 0, .ref m11, .ref m12, .ref m13, .int 0, .int 0, .ref m14, .int 0, .ref m15, .ref m16, .ref m17, .int 0, .int 0, .ref m18, .ref m19, .ref m20, .int 0, .ref m21]))] H := hP
  have hD : va_D A [(g0, .inr (7, [.int 0, .ref m1, .int 0, .int 0, .int 0, .int 0, .int (-1), .int 0, .int 0, .ref m2, .ref m3, .ref m4, .int 0, .ref m5, .ref m6, .ref m7, .int 0, .ref m8, .ref m9, .ref m10, .int 0, .int 0, .ref m11, .ref m12, .ref m13, .int 0, .int 0, .ref m14, .int 0, .ref m15, .ref m16, .ref m17, .int 0, .int 0, .ref m18, .ref m19, .ref m20, .int 0, .ref m21]))] := hD
  refine W.widen (k := 47) (n := 729261) (Nat.le_of_ble_eq_true rfl) (Nat.le_of_ble_eq_true rfl) ?_
  obtain rfl : r9 = 0 := hw
  refine lv_aload_n hx hb dL_law_303 rfl (lv_at hl 2 rfl) ?_
  have hPc := hP.sub (ws' := [(g0, .inr (7, [.int 0, .ref m1, .int 0, .int 0, .int 0, .int 0, .int (-1), .int 0, .int 0, .ref m2, .ref m3, .ref m4, .int 0, .ref m5, .ref m6, .ref m7, .int 0, .ref m8, .ref m9, .ref m10, .int 0, .int 0, .ref m11, .ref m12, .ref m13, .int 0, .int 0, .ref m14, .int 0, .ref m15, .ref m16, .ref m17, .int 0, .int 0, .ref m18, .ref m19, .ref m20, .int 0, .ref m21]))]) [0] rfl
  have hDc := hD.sub (ws' := [(g0, .inr (7, [.int 0, .ref m1, .int 0, .int 0, .int 0, .int 0, .int (-1), .int 0, .int 0, .ref m2, .ref m3, .ref m4, .int 0, .ref m5, .ref m6, .ref m7, .int 0, .ref m8, .ref m9, .ref m10, .int 0, .int 0, .ref m11, .ref m12, .ref m13, .int 0, .int 0, .ref m14, .int 0, .ref m15, .ref m16, .ref m17, .int 0, .int 0, .ref m18, .ref m19, .ref m20, .int 0, .ref m21]))]) [0] (by decide) rfl
  have hFc := va_free (wc := [(g0, .inr (7, [.int 0, .ref m1, .int 0, .int 0, .int 0, .int 0, .int (-1), .int 0, .int 0, .ref m2, .ref m3, .ref m4, .int 0, .ref m5, .ref m6, .ref m7, .int 0, .ref m8, .ref m9, .ref m10, .int 0, .int 0, .ref m11, .ref m12, .ref m13, .int 0, .int 0, .ref m14, .int 0, .ref m15, .ref m16, .ref m17, .int 0, .int 0, .ref m18, .ref m19, .ref m20, .int 0, .ref m21]))]) hD hS hA [0] rfl
  refine va_calli (va_runV (As := []) (rest := [.int 0]) ⟨hx, hb, hml, hown, hg⟩ (c_X7_size l dC dI cI cZ cL g0 (Array.size _) m1 m2 m3 m4 m5 m6 m7 m8 m9 m10 m11 m12 m13 m14 m15 m16 m17 m18 m19 m20 m21) (cwV 0 hg (gw_V k_318 k_319 k_320 k_245 g_yX7_size) rfl rfl rfl (by decide +kernel) ⟨(Nat.le_of_ble_eq_true rfl), (Nat.le_of_ble_eq_true rfl)⟩) ⟨hp_bl, va_recv hK hPc (ci := 7) (q0 := 0) rfl rfl, fun U hU hW => hp_ok hU hW hPc hK hDc⟩ rfl rfl hl.1 rfl (lv_room (Nat.le_of_ble_eq_true rfl)) dL_law_304 ⟨(Nat.le_of_ble_eq_true rfl), (Nat.le_of_ble_eq_true rfl)⟩) hS (fun q _ h => hFc q h) hFc (fun r9 u t H locs ht hvm hw hB hz1 hk1 hS => ?_)
  obtain ⟨hP1, hD1⟩ := hB
  rw [ht] at hP1
  obtain ⟨hP, hD⟩ := va_join (wr := []) (w1 := []) hP hD [0] [] rfl rfl (by decide) (by decide) hk1 hFc hP1 hD1
  have hP : va_P (dC, dI) vwCl [] H := hP
  have hD : va_D A [] := hD
  refine W.widen (k := 47) (n := 729261) (Nat.le_of_ble_eq_true rfl) (Nat.le_of_ble_eq_true rfl) ?_
  obtain rfl : r9 = 0 := hw
  refine lv_icmp_eq (tgt := 394) hx hb dL_law_307 (by decide) (fun _ => ?_) (fun c9 => absurd (by decide) c9)
  exact law_tail hbA hAf C0 (Nat.le_of_ble_eq_true rfl) (Nat.le_of_ble_eq_true rfl) hS (lv_sub hl [0, 4] rfl)

set_option maxHeartbeats 4000000 in
set_option maxRecDepth 100000 in
theorem law_6 {p : Program} {l : Launch} {e : Env} {s : State} {m : MethodId} {below : List Frame} {meth : Method} {c : Code} {b : Nat} {xs : Nat → Int32} {dC : Nat → ClassId} {dI : Nat → Nat → Nat} {cI cZ cL : ClassId} {A : Nat → Prop} (hst : l.stackTraces = false) (hA : ∀ q : Nat, s.heap.size ≤ q → A q) (hbA : ¬ A b) (hAf : ∀ q, A q → s.heap.size ≤ q) (C0 : lw_At p s m meth c b 4 xs) (hK : va_K (dC, dI) vwCl (t3 cI cZ cL) s) (hE : ex A s) {h0 a1 n0 r0 j0 p0 x0 j2 j3 j4 j5 g0 m1 m2 m3 m4 m5 m6 m7 m8 m9 m10 m11 m12 m13 m14 m15 m16 m17 m18 m19 m20 m21 o0 : Nat} {H : Heap} {locs : List Loc} (hP : va_P (dC, dI) vwCl [(h0, .inr (6, [.ref a1, .int 0, .int (-1), .ref n0, .ref r0, .ref j0, .ref p0])), (j0, .inr (1, [.ref n0, .ref x0, .ref j2, .ref j3, .ref j4, .ref j5, .int 0, .int 0, .int (-1), .int 0, .int 0])), (g0, .inr (7, [.int 0, .ref m1, .int 0, .int 0, .int 0, .int 0, .int (-1), .int 0, .int 0, .ref m2, .ref m3, .ref m4, .int 0, .ref m5, .ref m6, .ref m7, .int 0, .ref m8, .ref m9, .ref m10, .int 0, .int 0, .ref m11, .ref m12, .ref m13, .int 0, .int 0, .ref m14, .int 0, .ref m15, .ref m16, .ref m17, .int 0, .int 0, .ref m18, .ref m19, .ref m20, .int 0, .ref m21]))] H) (hD : va_D A [(h0, .inr (6, [.ref a1, .int 0, .int (-1), .ref n0, .ref r0, .ref j0, .ref p0])), (j0, .inr (1, [.ref n0, .ref x0, .ref j2, .ref j3, .ref j4, .ref j5, .int 0, .int 0, .int (-1), .int 0, .int 0])), (g0, .inr (7, [.int 0, .ref m1, .int 0, .int 0, .int 0, .int 0, .int (-1), .int 0, .int 0, .ref m2, .ref m3, .ref m4, .int 0, .ref m5, .ref m6, .ref m7, .int 0, .ref m8, .ref m9, .ref m10, .int 0, .int 0, .ref m11, .ref m12, .ref m13, .int 0, .int 0, .ref m14, .int 0, .ref m15, .ref m16, .ref m17, .int 0, .int 0, .ref m18, .ref m19, .ref m20, .int 0, .ref m21]))]) (hS : va_S A s.heap H locs) {ls : Array Slot} (hl : lv_has ls 7 [(0, .ref b), (1, .ref h0), (2, .ref g0), (3, .ref o0), (4, .int 0)]) : W p l e room_1 s m #[Value.ref b] below meth c H locs 47 729261 (lw_Z below #[Value.ref b] s) (F0 m 368 ls []) := by
  obtain ⟨hx, hb, hr, hml, hown, hts, hX, hbl, hlocks, hgv⟩ := id C0
  have hg : ∀ w ∈ gw_all, w.before #[Value.ref b] s = true := fun w h => hts w (gw_in w h)
  refine W.widen (k := 47) (n := 729261) (Nat.le_of_ble_eq_true rfl) (Nat.le_of_ble_eq_true rfl) ?_
  refine lv_aload_n hx hb dL_law_368 rfl (lv_at hl 1 rfl) ?_
  have hPc := hP.sub (ws' := [(h0, .inr (6, [.ref a1, .int 0, .int (-1), .ref n0, .ref r0, .ref j0, .ref p0])), (j0, .inr (1, [.ref n0, .ref x0, .ref j2, .ref j3, .ref j4, .ref j5, .int 0, .int 0, .int (-1), .int 0, .int 0]))]) [0, 1] rfl
  have hDc := hD.sub (ws' := [(h0, .inr (6, [.ref a1, .int 0, .int (-1), .ref n0, .ref r0, .ref j0, .ref p0])), (j0, .inr (1, [.ref n0, .ref x0, .ref j2, .ref j3, .ref j4, .ref j5, .int 0, .int 0, .int (-1), .int 0, .int 0]))]) [0, 1] (by decide) rfl
  have hFc := va_free (wc := [(h0, .inr (6, [.ref a1, .int 0, .int (-1), .ref n0, .ref r0, .ref j0, .ref p0])), (j0, .inr (1, [.ref n0, .ref x0, .ref j2, .ref j3, .ref j4, .ref j5, .int 0, .int 0, .int (-1), .int 0, .int 0]))]) hD hS hA [0, 1] rfl
  refine va_calli (va_runV (As := []) (rest := []) ⟨hx, hb, hml, hown, hg⟩ (c_X6_unknowns l dC dI cI cZ cL h0 j0 (Array.size _) n0 r0 p0 a1 x0 j2 j3 j4 j5) (cwV 0 hg (gw_V k_321 k_322 k_323 k_280 g_yX6_unknowns) rfl rfl rfl (by decide +kernel) ⟨(Nat.le_of_ble_eq_true rfl), (Nat.le_of_ble_eq_true rfl)⟩) ⟨hp_bl, va_recv hK hPc (ci := 6) (q0 := 0) rfl rfl, fun U hU hW => hp_ok hU hW hPc hK hDc⟩ rfl rfl hl.1 rfl (lv_room (Nat.le_of_ble_eq_true rfl)) dL_law_369 ⟨(Nat.le_of_ble_eq_true rfl), (Nat.le_of_ble_eq_true rfl)⟩) hS (fun q _ h => hFc q h) hFc (fun r9 u t H locs ht hvm hw hB hz1 hk1 hS => ?_)
  obtain ⟨hP1, hD1⟩ := hB
  rw [ht] at hP1
  obtain ⟨hP, hD⟩ := va_join (wr := [(g0, .inr (7, [.int 0, .ref m1, .int 0, .int 0, .int 0, .int 0, .int (-1), .int 0, .int 0, .ref m2, .ref m3, .ref m4, .int 0, .ref m5, .ref m6, .ref m7, .int 0, .ref m8, .ref m9, .ref m10, .int 0, .int 0, .ref m11, .ref m12, .ref m13, .int 0, .int 0, .ref m14, .int 0, .ref m15, .ref m16, .ref m17, .int 0, .int 0, .ref m18, .ref m19, .ref m20, .int 0, .ref m21]))]) (w1 := []) hP hD [0, 1] [2] rfl rfl (by decide) (by decide) hk1 hFc hP1 hD1
  have hP : va_P (dC, dI) vwCl [(g0, .inr (7, [.int 0, .ref m1, .int 0, .int 0, .int 0, .int 0, .int (-1), .int 0, .int 0, .ref m2, .ref m3, .ref m4, .int 0, .ref m5, .ref m6, .ref m7, .int 0, .ref m8, .ref m9, .ref m10, .int 0, .int 0, .ref m11, .ref m12, .ref m13, .int 0, .int 0, .ref m14, .int 0, .ref m15, .ref m16, .ref m17, .int 0, .int 0, .ref m18, .ref m19, .ref m20, .int 0, .ref m21]))] H := hP
  have hD : va_D A [(g0, .inr (7, [.int 0, .ref m1, .int 0, .int 0, .int 0, .int 0, .int (-1), .int 0, .int 0, .ref m2, .ref m3, .ref m4, .int 0, .ref m5, .ref m6, .ref m7, .int 0, .ref m8, .ref m9, .ref m10, .int 0, .int 0, .ref m11, .ref m12, .ref m13, .int 0, .int 0, .ref m14, .int 0, .ref m15, .ref m16, .ref m17, .int 0, .int 0, .ref m18, .ref m19, .ref m20, .int 0, .ref m21]))] := hD
  refine W.widen (k := 47) (n := 729261) (Nat.le_of_ble_eq_true rfl) (Nat.le_of_ble_eq_true rfl) ?_
  obtain rfl : r9 = 0 := hw
  refine lv_aload_n hx hb dL_law_372 rfl (lv_at hl 2 rfl) ?_
  have hPc := hP.sub (ws' := [(g0, .inr (7, [.int 0, .ref m1, .int 0, .int 0, .int 0, .int 0, .int (-1), .int 0, .int 0, .ref m2, .ref m3, .ref m4, .int 0, .ref m5, .ref m6, .ref m7, .int 0, .ref m8, .ref m9, .ref m10, .int 0, .int 0, .ref m11, .ref m12, .ref m13, .int 0, .int 0, .ref m14, .int 0, .ref m15, .ref m16, .ref m17, .int 0, .int 0, .ref m18, .ref m19, .ref m20, .int 0, .ref m21]))]) [0] rfl
  have hDc := hD.sub (ws' := [(g0, .inr (7, [.int 0, .ref m1, .int 0, .int 0, .int 0, .int 0, .int (-1), .int 0, .int 0, .ref m2, .ref m3, .ref m4, .int 0, .ref m5, .ref m6, .ref m7, .int 0, .ref m8, .ref m9, .ref m10, .int 0, .int 0, .ref m11, .ref m12, .ref m13, .int 0, .int 0, .ref m14, .int 0, .ref m15, .ref m16, .ref m17, .int 0, .int 0, .ref m18, .ref m19, .ref m20, .int 0, .ref m21]))]) [0] (by decide) rfl
  have hFc := va_free (wc := [(g0, .inr (7, [.int 0, .ref m1, .int 0, .int 0, .int 0, .int 0, .int (-1), .int 0, .int 0, .ref m2, .ref m3, .ref m4, .int 0, .ref m5, .ref m6, .ref m7, .int 0, .ref m8, .ref m9, .ref m10, .int 0, .int 0, .ref m11, .ref m12, .ref m13, .int 0, .int 0, .ref m14, .int 0, .ref m15, .ref m16, .ref m17, .int 0, .int 0, .ref m18, .ref m19, .ref m20, .int 0, .ref m21]))]) hD hS hA [0] rfl
  refine va_calli (va_runV (As := []) (rest := [.int 0]) ⟨hx, hb, hml, hown, hg⟩ (c_X7_unknowns l dC dI cI cZ cL g0 (Array.size _) m1 m2 m3 m4 m5 m6 m7 m8 m9 m10 m11 m12 m13 m14 m15 m16 m17 m18 m19 m20 m21) (cwV 0 hg (gw_V k_324 k_325 k_326 k_245 g_yX7_unknowns) rfl rfl rfl (by decide +kernel) ⟨(Nat.le_of_ble_eq_true rfl), (Nat.le_of_ble_eq_true rfl)⟩) ⟨hp_bl, va_recv hK hPc (ci := 7) (q0 := 0) rfl rfl, fun U hU hW => hp_ok hU hW hPc hK hDc⟩ rfl rfl hl.1 rfl (lv_room (Nat.le_of_ble_eq_true rfl)) dL_law_373 ⟨(Nat.le_of_ble_eq_true rfl), (Nat.le_of_ble_eq_true rfl)⟩) hS (fun q _ h => hFc q h) hFc (fun r9 u t H locs ht hvm hw hB hz1 hk1 hS => ?_)
  obtain ⟨hP1, hD1⟩ := hB
  rw [ht] at hP1
  obtain ⟨hP, hD⟩ := va_join (wr := []) (w1 := []) hP hD [0] [] rfl rfl (by decide) (by decide) hk1 hFc hP1 hD1
  have hP : va_P (dC, dI) vwCl [] H := hP
  have hD : va_D A [] := hD
  refine W.widen (k := 47) (n := 729261) (Nat.le_of_ble_eq_true rfl) (Nat.le_of_ble_eq_true rfl) ?_
  obtain rfl : r9 = 0 := hw
  refine lv_icmp_eq (tgt := 394) hx hb dL_law_376 (by decide) (fun _ => ?_) (fun c9 => absurd (by decide) c9)
  exact law_tail hbA hAf C0 (Nat.le_of_ble_eq_true rfl) (Nat.le_of_ble_eq_true rfl) hS (lv_sub hl [0, 4] rfl)

set_option maxHeartbeats 4000000 in
set_option maxRecDepth 100000 in
theorem law_7 {p : Program} {l : Launch} {e : Env} {s : State} {m : MethodId} {below : List Frame} {meth : Method} {c : Code} {b : Nat} {xs : Nat → Int32} {dC : Nat → ClassId} {dI : Nat → Nat → Nat} {cI cZ cL : ClassId} {A : Nat → Prop} (hst : l.stackTraces = false) (hA : ∀ q : Nat, s.heap.size ≤ q → A q) (hbA : ¬ A b) (hAf : ∀ q, A q → s.heap.size ≤ q) (C0 : lw_At p s m meth c b 4 xs) (hK : va_K (dC, dI) vwCl (t3 cI cZ cL) s) (hE : ex A s) {h0 a1 n0 r0 j0 p0 x0 j2 j3 j4 j5 g0 m1 m2 m3 m4 m5 m6 m7 m8 m9 m10 m11 m12 m13 m14 m15 m16 m17 m18 m19 m20 m21 o0 : Nat} {H : Heap} {locs : List Loc} (hP : va_P (dC, dI) vwCl [(h0, .inr (6, [.ref a1, .int 0, .int (-1), .ref n0, .ref r0, .ref j0, .ref p0])), (j0, .inr (1, [.ref n0, .ref x0, .ref j2, .ref j3, .ref j4, .ref j5, .int 0, .int 0, .int (-1), .int 0, .int 0])), (g0, .inr (7, [.int 0, .ref m1, .int 0, .int 0, .int 0, .int 0, .int (-1), .int 0, .int 0, .ref m2, .ref m3, .ref m4, .int 0, .ref m5, .ref m6, .ref m7, .int 0, .ref m8, .ref m9, .ref m10, .int 0, .int 0, .ref m11, .ref m12, .ref m13, .int 0, .int 0, .ref m14, .int 0, .ref m15, .ref m16, .ref m17, .int 0, .int 0, .ref m18, .ref m19, .ref m20, .int 0, .ref m21]))] H) (hD : va_D A [(h0, .inr (6, [.ref a1, .int 0, .int (-1), .ref n0, .ref r0, .ref j0, .ref p0])), (j0, .inr (1, [.ref n0, .ref x0, .ref j2, .ref j3, .ref j4, .ref j5, .int 0, .int 0, .int (-1), .int 0, .int 0])), (g0, .inr (7, [.int 0, .ref m1, .int 0, .int 0, .int 0, .int 0, .int (-1), .int 0, .int 0, .ref m2, .ref m3, .ref m4, .int 0, .ref m5, .ref m6, .ref m7, .int 0, .ref m8, .ref m9, .ref m10, .int 0, .int 0, .ref m11, .ref m12, .ref m13, .int 0, .int 0, .ref m14, .int 0, .ref m15, .ref m16, .ref m17, .int 0, .int 0, .ref m18, .ref m19, .ref m20, .int 0, .ref m21]))]) (hS : va_S A s.heap H locs) {ls : Array Slot} (hl : lv_has ls 7 [(0, .ref b), (1, .ref h0), (2, .ref g0), (3, .ref o0), (4, .int 0)]) : W p l e room_1 s m #[Value.ref b] below meth c H locs 47 729261 (lw_Z below #[Value.ref b] s) (F0 m 381 ls []) := by
  obtain ⟨hx, hb, hr, hml, hown, hts, hX, hbl, hlocks, hgv⟩ := id C0
  have hg : ∀ w ∈ gw_all, w.before #[Value.ref b] s = true := fun w h => hts w (gw_in w h)
  refine W.widen (k := 47) (n := 729261) (Nat.le_of_ble_eq_true rfl) (Nat.le_of_ble_eq_true rfl) ?_
  refine lv_aload_n hx hb dL_law_381 rfl (lv_at hl 1 rfl) ?_
  have hPc := hP.sub (ws' := [(h0, .inr (6, [.ref a1, .int 0, .int (-1), .ref n0, .ref r0, .ref j0, .ref p0])), (j0, .inr (1, [.ref n0, .ref x0, .ref j2, .ref j3, .ref j4, .ref j5, .int 0, .int 0, .int (-1), .int 0, .int 0]))]) [0, 1] rfl
  have hDc := hD.sub (ws' := [(h0, .inr (6, [.ref a1, .int 0, .int (-1), .ref n0, .ref r0, .ref j0, .ref p0])), (j0, .inr (1, [.ref n0, .ref x0, .ref j2, .ref j3, .ref j4, .ref j5, .int 0, .int 0, .int (-1), .int 0, .int 0]))]) [0, 1] (by decide) rfl
  have hFc := va_free (wc := [(h0, .inr (6, [.ref a1, .int 0, .int (-1), .ref n0, .ref r0, .ref j0, .ref p0])), (j0, .inr (1, [.ref n0, .ref x0, .ref j2, .ref j3, .ref j4, .ref j5, .int 0, .int 0, .int (-1), .int 0, .int 0]))]) hD hS hA [0, 1] rfl
  refine va_calli (va_runV (As := []) (rest := []) ⟨hx, hb, hml, hown, hg⟩ (c_X6_solved l dC dI cI cZ cL h0 j0 (Array.size _) n0 r0 p0 a1 x0 j2 j3 j4 j5) (cwV 0 hg (gw_V k_327 k_328 k_329 k_280 g_yX6_solved) rfl rfl rfl (by decide +kernel) ⟨(Nat.le_of_ble_eq_true rfl), (Nat.le_of_ble_eq_true rfl)⟩) ⟨hp_bl, va_recv hK hPc (ci := 6) (q0 := 0) rfl rfl, fun U hU hW => hp_ok hU hW hPc hK hDc⟩ rfl rfl hl.1 rfl (lv_room (Nat.le_of_ble_eq_true rfl)) dL_law_382 ⟨(Nat.le_of_ble_eq_true rfl), (Nat.le_of_ble_eq_true rfl)⟩) hS (fun q _ h => hFc q h) hFc (fun r9 u t H locs ht hvm hw hB hz1 hk1 hS => ?_)
  obtain ⟨hP1, hD1⟩ := hB
  rw [ht] at hP1
  obtain ⟨hP, hD⟩ := va_join (wr := [(g0, .inr (7, [.int 0, .ref m1, .int 0, .int 0, .int 0, .int 0, .int (-1), .int 0, .int 0, .ref m2, .ref m3, .ref m4, .int 0, .ref m5, .ref m6, .ref m7, .int 0, .ref m8, .ref m9, .ref m10, .int 0, .int 0, .ref m11, .ref m12, .ref m13, .int 0, .int 0, .ref m14, .int 0, .ref m15, .ref m16, .ref m17, .int 0, .int 0, .ref m18, .ref m19, .ref m20, .int 0, .ref m21]))]) (w1 := []) hP hD [0, 1] [2] rfl rfl (by decide) (by decide) hk1 hFc hP1 hD1
  have hP : va_P (dC, dI) vwCl [(g0, .inr (7, [.int 0, .ref m1, .int 0, .int 0, .int 0, .int 0, .int (-1), .int 0, .int 0, .ref m2, .ref m3, .ref m4, .int 0, .ref m5, .ref m6, .ref m7, .int 0, .ref m8, .ref m9, .ref m10, .int 0, .int 0, .ref m11, .ref m12, .ref m13, .int 0, .int 0, .ref m14, .int 0, .ref m15, .ref m16, .ref m17, .int 0, .int 0, .ref m18, .ref m19, .ref m20, .int 0, .ref m21]))] H := hP
  have hD : va_D A [(g0, .inr (7, [.int 0, .ref m1, .int 0, .int 0, .int 0, .int 0, .int (-1), .int 0, .int 0, .ref m2, .ref m3, .ref m4, .int 0, .ref m5, .ref m6, .ref m7, .int 0, .ref m8, .ref m9, .ref m10, .int 0, .int 0, .ref m11, .ref m12, .ref m13, .int 0, .int 0, .ref m14, .int 0, .ref m15, .ref m16, .ref m17, .int 0, .int 0, .ref m18, .ref m19, .ref m20, .int 0, .ref m21]))] := hD
  refine W.widen (k := 47) (n := 729261) (Nat.le_of_ble_eq_true rfl) (Nat.le_of_ble_eq_true rfl) ?_
  obtain rfl : r9 = 0 := hw
  refine lv_aload_n hx hb dL_law_385 rfl (lv_at hl 2 rfl) ?_
  have hPc := hP.sub (ws' := [(g0, .inr (7, [.int 0, .ref m1, .int 0, .int 0, .int 0, .int 0, .int (-1), .int 0, .int 0, .ref m2, .ref m3, .ref m4, .int 0, .ref m5, .ref m6, .ref m7, .int 0, .ref m8, .ref m9, .ref m10, .int 0, .int 0, .ref m11, .ref m12, .ref m13, .int 0, .int 0, .ref m14, .int 0, .ref m15, .ref m16, .ref m17, .int 0, .int 0, .ref m18, .ref m19, .ref m20, .int 0, .ref m21]))]) [0] rfl
  have hDc := hD.sub (ws' := [(g0, .inr (7, [.int 0, .ref m1, .int 0, .int 0, .int 0, .int 0, .int (-1), .int 0, .int 0, .ref m2, .ref m3, .ref m4, .int 0, .ref m5, .ref m6, .ref m7, .int 0, .ref m8, .ref m9, .ref m10, .int 0, .int 0, .ref m11, .ref m12, .ref m13, .int 0, .int 0, .ref m14, .int 0, .ref m15, .ref m16, .ref m17, .int 0, .int 0, .ref m18, .ref m19, .ref m20, .int 0, .ref m21]))]) [0] (by decide) rfl
  have hFc := va_free (wc := [(g0, .inr (7, [.int 0, .ref m1, .int 0, .int 0, .int 0, .int 0, .int (-1), .int 0, .int 0, .ref m2, .ref m3, .ref m4, .int 0, .ref m5, .ref m6, .ref m7, .int 0, .ref m8, .ref m9, .ref m10, .int 0, .int 0, .ref m11, .ref m12, .ref m13, .int 0, .int 0, .ref m14, .int 0, .ref m15, .ref m16, .ref m17, .int 0, .int 0, .ref m18, .ref m19, .ref m20, .int 0, .ref m21]))]) hD hS hA [0] rfl
  refine va_calli (va_runV (As := []) (rest := [.int 0]) ⟨hx, hb, hml, hown, hg⟩ (c_X7_solved l dC dI cI cZ cL g0 (Array.size _) m1 m2 m3 m4 m5 m6 m7 m8 m9 m10 m11 m12 m13 m14 m15 m16 m17 m18 m19 m20 m21) (cwV 0 hg (gw_V k_330 k_331 k_332 k_245 g_yX7_solved) rfl rfl rfl (by decide +kernel) ⟨(Nat.le_of_ble_eq_true rfl), (Nat.le_of_ble_eq_true rfl)⟩) ⟨hp_bl, va_recv hK hPc (ci := 7) (q0 := 0) rfl rfl, fun U hU hW => hp_ok hU hW hPc hK hDc⟩ rfl rfl hl.1 rfl (lv_room (Nat.le_of_ble_eq_true rfl)) dL_law_386 ⟨(Nat.le_of_ble_eq_true rfl), (Nat.le_of_ble_eq_true rfl)⟩) hS (fun q _ h => hFc q h) hFc (fun r9 u t H locs ht hvm hw hB hz1 hk1 hS => ?_)
  obtain ⟨hP1, hD1⟩ := hB
  rw [ht] at hP1
  obtain ⟨hP, hD⟩ := va_join (wr := []) (w1 := []) hP hD [0] [] rfl rfl (by decide) (by decide) hk1 hFc hP1 hD1
  have hP : va_P (dC, dI) vwCl [] H := hP
  have hD : va_D A [] := hD
  refine W.widen (k := 47) (n := 729261) (Nat.le_of_ble_eq_true rfl) (Nat.le_of_ble_eq_true rfl) ?_
  obtain rfl : r9 = 0 := hw
  refine lv_icmp_eq (tgt := 394) hx hb dL_law_389 (by decide) (fun _ => ?_) (fun c9 => absurd (by decide) c9)
  exact law_tail hbA hAf C0 (Nat.le_of_ble_eq_true rfl) (Nat.le_of_ble_eq_true rfl) hS (lv_sub hl [0, 4] rfl)

set_option maxHeartbeats 4000000 in
set_option maxRecDepth 100000 in
theorem law_1 {p : Program} {l : Launch} {e : Env} {s : State} {m : MethodId} {below : List Frame} {meth : Method} {c : Code} {b : Nat} {xs : Nat → Int32} {dC : Nat → ClassId} {dI : Nat → Nat → Nat} {cI cZ cL : ClassId} {A : Nat → Prop} (hst : l.stackTraces = false) (hA : ∀ q : Nat, s.heap.size ≤ q → A q) (hbA : ¬ A b) (hAf : ∀ q, A q → s.heap.size ≤ q) (C0 : lw_At p s m meth c b 4 xs) (hK : va_K (dC, dI) vwCl (t3 cI cZ cL) s) (hE : ex A s) {h0 a1 n0 r0 j0 p0 b1 b2 b3 b4 b5 a2 a3 x0 j2 j3 j4 j5 c1 c2 p1 p2 o0 g0 m1 m2 m3 m4 m5 m6 m7 m8 m9 m10 m11 m12 m13 m14 m15 m16 m17 m18 m19 m20 m21 : Nat} {H : Heap} {locs : List Loc} (hP : va_P (dC, dI) vwCl [(h0, .inr (6, [.ref a1, .int 0, .int (-1), .ref n0, .ref r0, .ref j0, .ref p0])), (a1, .inl (cI, 60, .inl zI)), (n0, .inr (2, [.ref b1, .ref b2, .ref b3, .ref b4, .ref b5, .int 0])), (b1, .inl (cI, 4096, .inl zI)), (b2, .inl (cI, 4096, .inl zI)), (b3, .inl (cI, 4096, .inl zI)), (b4, .inl (cI, 4096, .inl zI)), (b5, .inl (cZ, 4096, .inl zI)), (r0, .inr (4, [.ref n0, .ref a1, .ref a2, .ref a3, .int 0, .int 0, .int 0, .int 0, .int (-1)])), (a2, .inl (cI, 26, .inl zI)), (j0, .inr (1, [.ref n0, .ref x0, .ref j2, .ref j3, .ref j4, .ref j5, .int 0, .int 0, .int (-1), .int 0, .int 0])), (x0, .inr (0, [.ref n0, .ref c1, .ref c2, .int 0])), (p0, .inr (3, [.ref n0, .ref p1, .ref p2, .int 0, .int (-1), .int 0])), (o0, .inl (cL, 1, .inr (.inl zL))), (g0, .inr (7, [.int 0, .ref m1, .int 0, .int 0, .int 0, .int 0, .int (-1), .int 0, .int 0, .ref m2, .ref m3, .ref m4, .int 0, .ref m5, .ref m6, .ref m7, .int 0, .ref m8, .ref m9, .ref m10, .int 0, .int 0, .ref m11, .ref m12, .ref m13, .int 0, .int 0, .ref m14, .int 0, .ref m15, .ref m16, .ref m17, .int 0, .int 0, .ref m18, .ref m19, .ref m20, .int 0, .ref m21])), (m8, .inl (cI, 130, .inl zI)), (m9, .inl (cI, 130, .inl zI)), (m10, .inl (cI, 130, .inl zI)), (m18, .inl (cI, 8000, .inl zI))] H) (hD : va_D A [(h0, .inr (6, [.ref a1, .int 0, .int (-1), .ref n0, .ref r0, .ref j0, .ref p0])), (a1, .inl (cI, 60, .inl zI)), (n0, .inr (2, [.ref b1, .ref b2, .ref b3, .ref b4, .ref b5, .int 0])), (b1, .inl (cI, 4096, .inl zI)), (b2, .inl (cI, 4096, .inl zI)), (b3, .inl (cI, 4096, .inl zI)), (b4, .inl (cI, 4096, .inl zI)), (b5, .inl (cZ, 4096, .inl zI)), (r0, .inr (4, [.ref n0, .ref a1, .ref a2, .ref a3, .int 0, .int 0, .int 0, .int 0, .int (-1)])), (a2, .inl (cI, 26, .inl zI)), (j0, .inr (1, [.ref n0, .ref x0, .ref j2, .ref j3, .ref j4, .ref j5, .int 0, .int 0, .int (-1), .int 0, .int 0])), (x0, .inr (0, [.ref n0, .ref c1, .ref c2, .int 0])), (p0, .inr (3, [.ref n0, .ref p1, .ref p2, .int 0, .int (-1), .int 0])), (o0, .inl (cL, 1, .inr (.inl zL))), (g0, .inr (7, [.int 0, .ref m1, .int 0, .int 0, .int 0, .int 0, .int (-1), .int 0, .int 0, .ref m2, .ref m3, .ref m4, .int 0, .ref m5, .ref m6, .ref m7, .int 0, .ref m8, .ref m9, .ref m10, .int 0, .int 0, .ref m11, .ref m12, .ref m13, .int 0, .int 0, .ref m14, .int 0, .ref m15, .ref m16, .ref m17, .int 0, .int 0, .ref m18, .ref m19, .ref m20, .int 0, .ref m21])), (m8, .inl (cI, 130, .inl zI)), (m9, .inl (cI, 130, .inl zI)), (m10, .inl (cI, 130, .inl zI)), (m18, .inl (cI, 8000, .inl zI))]) (hS : va_S A s.heap H locs) {ls : Array Slot} (hl : lv_has ls 7 [(0, .ref b), (1, .ref h0), (2, .ref g0), (3, .ref o0), (4, .int 0)]) : W p l e room_1 s m #[Value.ref b] below meth c H locs 47 729261 (lw_Z below #[Value.ref b] s) (F0 m 184 ls []) := by
  obtain ⟨hx, hb, hr, hml, hown, hts, hX, hbl, hlocks, hgv⟩ := id C0
  have hg : ∀ w ∈ gw_all, w.before #[Value.ref b] s = true := fun w h => hts w (gw_in w h)
  refine W.widen (k := 47) (n := 729261) (Nat.le_of_ble_eq_true rfl) (Nat.le_of_ble_eq_true rfl) ?_
  refine lv_aload_n hx hb dL_law_184 rfl (lv_at hl 1 rfl) ?_
  refine lv_aload_n hx hb dL_law_185 rfl (lv_at hl 3 rfl) ?_
  have hPc := hP.sub (ws' := [(h0, .inr (6, [.ref a1, .int 0, .int (-1), .ref n0, .ref r0, .ref j0, .ref p0])), (a1, .inl (cI, 60, .inl zI)), (n0, .inr (2, [.ref b1, .ref b2, .ref b3, .ref b4, .ref b5, .int 0])), (b1, .inl (cI, 4096, .inl zI)), (b2, .inl (cI, 4096, .inl zI)), (b3, .inl (cI, 4096, .inl zI)), (b4, .inl (cI, 4096, .inl zI)), (b5, .inl (cZ, 4096, .inl zI)), (r0, .inr (4, [.ref n0, .ref a1, .ref a2, .ref a3, .int 0, .int 0, .int 0, .int 0, .int (-1)])), (a2, .inl (cI, 26, .inl zI)), (j0, .inr (1, [.ref n0, .ref x0, .ref j2, .ref j3, .ref j4, .ref j5, .int 0, .int 0, .int (-1), .int 0, .int 0])), (x0, .inr (0, [.ref n0, .ref c1, .ref c2, .int 0])), (p0, .inr (3, [.ref n0, .ref p1, .ref p2, .int 0, .int (-1), .int 0])), (o0, .inl (cL, 1, .inr (.inl zL)))]) [0, 1, 2, 3, 4, 5, 6, 7, 8, 9, 10, 11, 12, 13] rfl
  have hDc := hD.sub (ws' := [(h0, .inr (6, [.ref a1, .int 0, .int (-1), .ref n0, .ref r0, .ref j0, .ref p0])), (a1, .inl (cI, 60, .inl zI)), (n0, .inr (2, [.ref b1, .ref b2, .ref b3, .ref b4, .ref b5, .int 0])), (b1, .inl (cI, 4096, .inl zI)), (b2, .inl (cI, 4096, .inl zI)), (b3, .inl (cI, 4096, .inl zI)), (b4, .inl (cI, 4096, .inl zI)), (b5, .inl (cZ, 4096, .inl zI)), (r0, .inr (4, [.ref n0, .ref a1, .ref a2, .ref a3, .int 0, .int 0, .int 0, .int 0, .int (-1)])), (a2, .inl (cI, 26, .inl zI)), (j0, .inr (1, [.ref n0, .ref x0, .ref j2, .ref j3, .ref j4, .ref j5, .int 0, .int 0, .int (-1), .int 0, .int 0])), (x0, .inr (0, [.ref n0, .ref c1, .ref c2, .int 0])), (p0, .inr (3, [.ref n0, .ref p1, .ref p2, .int 0, .int (-1), .int 0])), (o0, .inl (cL, 1, .inr (.inl zL)))]) [0, 1, 2, 3, 4, 5, 6, 7, 8, 9, 10, 11, 12, 13] (by decide) rfl
  have hFc := va_free (wc := [(h0, .inr (6, [.ref a1, .int 0, .int (-1), .ref n0, .ref r0, .ref j0, .ref p0])), (a1, .inl (cI, 60, .inl zI)), (n0, .inr (2, [.ref b1, .ref b2, .ref b3, .ref b4, .ref b5, .int 0])), (b1, .inl (cI, 4096, .inl zI)), (b2, .inl (cI, 4096, .inl zI)), (b3, .inl (cI, 4096, .inl zI)), (b4, .inl (cI, 4096, .inl zI)), (b5, .inl (cZ, 4096, .inl zI)), (r0, .inr (4, [.ref n0, .ref a1, .ref a2, .ref a3, .int 0, .int 0, .int 0, .int 0, .int (-1)])), (a2, .inl (cI, 26, .inl zI)), (j0, .inr (1, [.ref n0, .ref x0, .ref j2, .ref j3, .ref j4, .ref j5, .int 0, .int 0, .int (-1), .int 0, .int 0])), (x0, .inr (0, [.ref n0, .ref c1, .ref c2, .int 0])), (p0, .inr (3, [.ref n0, .ref p1, .ref p2, .int 0, .int (-1), .int 0])), (o0, .inl (cL, 1, .inr (.inl zL)))]) hD hS hA [0, 1, 2, 3, 4, 5, 6, 7, 8, 9, 10, 11, 12, 13] rfl
  refine va_calli (vx_runSW (As := [.ref h0, .ref o0]) (rest := []) ⟨hx, hb, hml, hown, hg⟩ (c_L_infer l dC dI cI cZ cL h0 a1 n0 b1 b2 b3 b4 b5 r0 a2 j0 x0 p0 o0 (Array.size _) a3 j2 j3 j4 j5 c1 c2 p1 p2 zL hst) (vx_cwSW 2 hg (gw_S k_333 k_334 k_335 g_yL_infer) rfl rfl rfl (by decide +kernel) ⟨(Nat.le_of_ble_eq_true rfl), (Nat.le_of_ble_eq_true rfl)⟩) ⟨hpx_bl, fun U hU hW => hpx_ok hU hW hPc hK hDc hE hS hFc⟩ rfl rfl hl.1 rfl (lv_room (Nat.le_of_ble_eq_true rfl)) dL_law_186 ⟨(Nat.le_of_ble_eq_true rfl), (Nat.le_of_ble_eq_true rfl)⟩) hS (fun q _ h => hFc q h) hFc (fun r9 u t H locs ht hvm hw hB hz1 hk1 hS => ?_)
  obtain ⟨hP1, hD1⟩ := hB
  rw [ht] at hP1
  obtain ⟨hP, hD⟩ := va_join (wr := [(g0, .inr (7, [.int 0, .ref m1, .int 0, .int 0, .int 0, .int 0, .int (-1), .int 0, .int 0, .ref m2, .ref m3, .ref m4, .int 0, .ref m5, .ref m6, .ref m7, .int 0, .ref m8, .ref m9, .ref m10, .int 0, .int 0, .ref m11, .ref m12, .ref m13, .int 0, .int 0, .ref m14, .int 0, .ref m15, .ref m16, .ref m17, .int 0, .int 0, .ref m18, .ref m19, .ref m20, .int 0, .ref m21])), (m8, .inl (cI, 130, .inl zI)), (m9, .inl (cI, 130, .inl zI)), (m10, .inl (cI, 130, .inl zI)), (m18, .inl (cI, 8000, .inl zI))]) (w1 := [(o0, .inl (cL, 1, .inr (.inl zL)))]) hP hD [0, 1, 2, 3, 4, 5, 6, 7, 8, 9, 10, 11, 12, 13] [14, 15, 16, 17, 18] rfl rfl (by decide) (by decide) hk1 hFc hP1 hD1
  have hP : va_P (dC, dI) vwCl [(g0, .inr (7, [.int 0, .ref m1, .int 0, .int 0, .int 0, .int 0, .int (-1), .int 0, .int 0, .ref m2, .ref m3, .ref m4, .int 0, .ref m5, .ref m6, .ref m7, .int 0, .ref m8, .ref m9, .ref m10, .int 0, .int 0, .ref m11, .ref m12, .ref m13, .int 0, .int 0, .ref m14, .int 0, .ref m15, .ref m16, .ref m17, .int 0, .int 0, .ref m18, .ref m19, .ref m20, .int 0, .ref m21])), (m8, .inl (cI, 130, .inl zI)), (m9, .inl (cI, 130, .inl zI)), (m10, .inl (cI, 130, .inl zI)), (m18, .inl (cI, 8000, .inl zI)), (o0, .inl (cL, 1, .inr (.inl zL)))] H := hP
  have hD : va_D A [(g0, .inr (7, [.int 0, .ref m1, .int 0, .int 0, .int 0, .int 0, .int (-1), .int 0, .int 0, .ref m2, .ref m3, .ref m4, .int 0, .ref m5, .ref m6, .ref m7, .int 0, .ref m8, .ref m9, .ref m10, .int 0, .int 0, .ref m11, .ref m12, .ref m13, .int 0, .int 0, .ref m14, .int 0, .ref m15, .ref m16, .ref m17, .int 0, .int 0, .ref m18, .ref m19, .ref m20, .int 0, .ref m21])), (m8, .inl (cI, 130, .inl zI)), (m9, .inl (cI, 130, .inl zI)), (m10, .inl (cI, 130, .inl zI)), (m18, .inl (cI, 8000, .inl zI)), (o0, .inl (cL, 1, .inr (.inl zL)))] := hD
  refine W.widen (k := 48) (n := 729267) (Nat.le_of_ble_eq_true rfl) (Nat.le_of_ble_eq_true rfl) ?_
  obtain rfl : r9 = 1 := hw
  refine lv_istore (lv' := [(5, .int 1), (0, .ref b), (1, .ref h0), (2, .ref g0), (3, .ref o0), (4, .int 0)]) hx hb dL_law_189 hl (by decide) rfl (fun ls hl => ?_)
  refine lv_aload_n hx hb dL_law_191 rfl (lv_at hl 3 rfl) ?_
  have hPc := hP.sub (ws' := [(g0, .inr (7, [.int 0, .ref m1, .int 0, .int 0, .int 0, .int 0, .int (-1), .int 0, .int 0, .ref m2, .ref m3, .ref m4, .int 0, .ref m5, .ref m6, .ref m7, .int 0, .ref m8, .ref m9, .ref m10, .int 0, .int 0, .ref m11, .ref m12, .ref m13, .int 0, .int 0, .ref m14, .int 0, .ref m15, .ref m16, .ref m17, .int 0, .int 0, .ref m18, .ref m19, .ref m20, .int 0, .ref m21])), (m8, .inl (cI, 130, .inl zI)), (m9, .inl (cI, 130, .inl zI)), (m10, .inl (cI, 130, .inl zI)), (m18, .inl (cI, 8000, .inl zI))]) [0, 1, 2, 3, 4] rfl
  have hDc := hD.sub (ws' := [(g0, .inr (7, [.int 0, .ref m1, .int 0, .int 0, .int 0, .int 0, .int (-1), .int 0, .int 0, .ref m2, .ref m3, .ref m4, .int 0, .ref m5, .ref m6, .ref m7, .int 0, .ref m8, .ref m9, .ref m10, .int 0, .int 0, .ref m11, .ref m12, .ref m13, .int 0, .int 0, .ref m14, .int 0, .ref m15, .ref m16, .ref m17, .int 0, .int 0, .ref m18, .ref m19, .ref m20, .int 0, .ref m21])), (m8, .inl (cI, 130, .inl zI)), (m9, .inl (cI, 130, .inl zI)), (m10, .inl (cI, 130, .inl zI)), (m18, .inl (cI, 8000, .inl zI))]) [0, 1, 2, 3, 4] (by decide) rfl
  have hFc := va_free (wc := [(g0, .inr (7, [.int 0, .ref m1, .int 0, .int 0, .int 0, .int 0, .int (-1), .int 0, .int 0, .ref m2, .ref m3, .ref m4, .int 0, .ref m5, .ref m6, .ref m7, .int 0, .ref m8, .ref m9, .ref m10, .int 0, .int 0, .ref m11, .ref m12, .ref m13, .int 0, .int 0, .ref m14, .int 0, .ref m15, .ref m16, .ref m17, .int 0, .int 0, .ref m18, .ref m19, .ref m20, .int 0, .ref m21])), (m8, .inl (cI, 130, .inl zI)), (m9, .inl (cI, 130, .inl zI)), (m10, .inl (cI, 130, .inl zI)), (m18, .inl (cI, 8000, .inl zI))]) hD hS hA [0, 1, 2, 3, 4] rfl
  refine va_calli (va_runV (As := []) (rest := []) ⟨hx, hb, hml, hown, hg⟩ (c_X7_infer l dC dI cI cZ cL g0 m8 m9 m10 m18 (Array.size _) m1 m2 m3 m4 m5 m6 m7 m11 m12 m13 m14 m15 m16 m17 m19 m20 m21) (cwV 0 hg (gw_V k_336 k_337 k_338 k_245 g_yX7_infer) rfl rfl rfl (by decide +kernel) ⟨(Nat.le_of_ble_eq_true rfl), (Nat.le_of_ble_eq_true rfl)⟩) ⟨hp_bl, va_recv hK hPc (ci := 7) (q0 := 0) rfl rfl, fun U hU hW => hp_ok hU hW hPc hK hDc⟩ rfl rfl hl.1 rfl (lv_room (Nat.le_of_ble_eq_true rfl)) dL_law_192 ⟨(Nat.le_of_ble_eq_true rfl), (Nat.le_of_ble_eq_true rfl)⟩) hS (fun q _ h => hFc q h) hFc (fun r9 u t H locs ht hvm hw hB hz1 hk1 hS => ?_)
  obtain ⟨hP1, hD1⟩ := hB
  rw [ht] at hP1
  obtain ⟨hP, hD⟩ := va_join (wr := [(o0, .inl (cL, 1, .inr (.inl zL)))]) (w1 := [(g0, .inr (7, [.int 1, .ref m1, .int 0, .int 0, .int 0, .int 1, .int 0, .int 0, .int 0, .ref m2, .ref m3, .ref m4, .int 0, .ref m5, .ref m6, .ref m7, .int 0, .ref m8, .ref m9, .ref m10, .int 1, .int 0, .ref m11, .ref m12, .ref m13, .int 0, .int 0, .ref m14, .int 0, .ref m15, .ref m16, .ref m17, .int 0, .int 0, .ref m18, .ref m19, .ref m20, .int 0, .ref m21]))]) hP hD [0, 1, 2, 3, 4] [5] rfl rfl (by decide) (by decide) hk1 hFc hP1 hD1
  have hP : va_P (dC, dI) vwCl [(o0, .inl (cL, 1, .inr (.inl zL))), (g0, .inr (7, [.int 1, .ref m1, .int 0, .int 0, .int 0, .int 1, .int 0, .int 0, .int 0, .ref m2, .ref m3, .ref m4, .int 0, .ref m5, .ref m6, .ref m7, .int 0, .ref m8, .ref m9, .ref m10, .int 1, .int 0, .ref m11, .ref m12, .ref m13, .int 0, .int 0, .ref m14, .int 0, .ref m15, .ref m16, .ref m17, .int 0, .int 0, .ref m18, .ref m19, .ref m20, .int 0, .ref m21]))] H := hP
  have hD : va_D A [(o0, .inl (cL, 1, .inr (.inl zL))), (g0, .inr (7, [.int 1, .ref m1, .int 0, .int 0, .int 0, .int 1, .int 0, .int 0, .int 0, .ref m2, .ref m3, .ref m4, .int 0, .ref m5, .ref m6, .ref m7, .int 0, .ref m8, .ref m9, .ref m10, .int 1, .int 0, .ref m11, .ref m12, .ref m13, .int 0, .int 0, .ref m14, .int 0, .ref m15, .ref m16, .ref m17, .int 0, .int 0, .ref m18, .ref m19, .ref m20, .int 0, .ref m21]))] := hD
  refine W.widen (k := 48) (n := 729267) (Nat.le_of_ble_eq_true rfl) (Nat.le_of_ble_eq_true rfl) ?_
  obtain rfl : r9 = 0 := hw
  refine lv_istore (lv' := [(6, .int 0), (5, .int 1), (0, .ref b), (1, .ref h0), (2, .ref g0), (3, .ref o0), (4, .int 0)]) hx hb dL_law_195 hl (by decide) rfl (fun ls hl => ?_)
  refine lv_aload_n hx hb dL_law_197 rfl (lv_at hl 4 rfl) ?_
  have hPc := hP.sub (ws' := [(g0, .inr (7, [.int 1, .ref m1, .int 0, .int 0, .int 0, .int 1, .int 0, .int 0, .int 0, .ref m2, .ref m3, .ref m4, .int 0, .ref m5, .ref m6, .ref m7, .int 0, .ref m8, .ref m9, .ref m10, .int 1, .int 0, .ref m11, .ref m12, .ref m13, .int 0, .int 0, .ref m14, .int 0, .ref m15, .ref m16, .ref m17, .int 0, .int 0, .ref m18, .ref m19, .ref m20, .int 0, .ref m21]))]) [1] rfl
  have hDc := hD.sub (ws' := [(g0, .inr (7, [.int 1, .ref m1, .int 0, .int 0, .int 0, .int 1, .int 0, .int 0, .int 0, .ref m2, .ref m3, .ref m4, .int 0, .ref m5, .ref m6, .ref m7, .int 0, .ref m8, .ref m9, .ref m10, .int 1, .int 0, .ref m11, .ref m12, .ref m13, .int 0, .int 0, .ref m14, .int 0, .ref m15, .ref m16, .ref m17, .int 0, .int 0, .ref m18, .ref m19, .ref m20, .int 0, .ref m21]))]) [1] (by decide) rfl
  have hFc := va_free (wc := [(g0, .inr (7, [.int 1, .ref m1, .int 0, .int 0, .int 0, .int 1, .int 0, .int 0, .int 0, .ref m2, .ref m3, .ref m4, .int 0, .ref m5, .ref m6, .ref m7, .int 0, .ref m8, .ref m9, .ref m10, .int 1, .int 0, .ref m11, .ref m12, .ref m13, .int 0, .int 0, .ref m14, .int 0, .ref m15, .ref m16, .ref m17, .int 0, .int 0, .ref m18, .ref m19, .ref m20, .int 0, .ref m21]))]) hD hS hA [1] rfl
  refine va_calli (va_runV (As := []) (rest := []) ⟨hx, hb, hml, hown, hg⟩ (c_X7_thrown l dC dI cI cZ cL g0 (Array.size _) 1 [.ref m1, .int 0, .int 0, .int 0, .int 1, .int 0, .int 0, .int 0, .ref m2, .ref m3, .ref m4, .int 0, .ref m5, .ref m6, .ref m7, .int 0, .ref m8, .ref m9, .ref m10, .int 1, .int 0, .ref m11, .ref m12, .ref m13, .int 0, .int 0, .ref m14, .int 0, .ref m15, .ref m16, .ref m17, .int 0, .int 0, .ref m18, .ref m19, .ref m20, .int 0, .ref m21]) (cwV 0 hg (gw_V k_339 k_340 k_341 k_245 g_yX7_thrown) rfl rfl rfl (by decide +kernel) ⟨(Nat.le_of_ble_eq_true rfl), (Nat.le_of_ble_eq_true rfl)⟩) ⟨hp_bl, va_recv hK hPc (ci := 7) (q0 := 0) rfl rfl, fun U hU hW => hp_ok hU hW hPc hK hDc⟩ rfl rfl hl.1 rfl (lv_room (Nat.le_of_ble_eq_true rfl)) dL_law_198 ⟨(Nat.le_of_ble_eq_true rfl), (Nat.le_of_ble_eq_true rfl)⟩) hS (fun q _ h => hFc q h) hFc (fun r9 u t H locs ht hvm hw hB hz1 hk1 hS => ?_)
  obtain ⟨hP1, hD1⟩ := hB
  rw [ht] at hP1
  obtain ⟨hP, hD⟩ := va_join (wr := [(o0, .inl (cL, 1, .inr (.inl zL)))]) (w1 := []) hP hD [1] [0] rfl rfl (by decide) (by decide) hk1 hFc hP1 hD1
  have hP : va_P (dC, dI) vwCl [(o0, .inl (cL, 1, .inr (.inl zL)))] H := hP
  have hD : va_D A [(o0, .inl (cL, 1, .inr (.inl zL)))] := hD
  refine W.widen (k := 48) (n := 729267) (Nat.le_of_ble_eq_true rfl) (Nat.le_of_ble_eq_true rfl) ?_
  obtain rfl : r9 = 1 := hw
  refine lv_iload hx hb dL_law_201 (lv_at hl 1 rfl) ?_
  refine lv_icmp_eq (tgt := 208) hx hb dL_law_203 (by decide) (fun _ => ?_) (fun c9 => absurd (by decide) c9)
  refine lv_iload hx hb dL_law_208 (lv_at hl 1 rfl) ?_
  refine lv_if_ne (tgt := 232) hx hb dL_law_210 (by decide) (fun _ => ?_) (fun c9 => absurd c9 (by decide))
  refine lv_goto (tgt := 394) hx hb dL_law_232 (by decide) ?_
  exact law_tail hbA hAf C0 (Nat.le_of_ble_eq_true rfl) (Nat.le_of_ble_eq_true rfl) hS (lv_sub hl [2, 6] rfl)

set_option maxHeartbeats 4000000 in
set_option maxRecDepth 100000 in
theorem law_2 {p : Program} {l : Launch} {e : Env} {s : State} {m : MethodId} {below : List Frame} {meth : Method} {c : Code} {b : Nat} {xs : Nat → Int32} {dC : Nat → ClassId} {dI : Nat → Nat → Nat} {cI cZ cL : ClassId} {A : Nat → Prop} (hst : l.stackTraces = false) (hA : ∀ q : Nat, s.heap.size ≤ q → A q) (hbA : ¬ A b) (hAf : ∀ q, A q → s.heap.size ≤ q) (C0 : lw_At p s m meth c b 4 xs) (hK : va_K (dC, dI) vwCl (t3 cI cZ cL) s) (hE : ex A s) {h0 a1 n0 r0 j0 p0 b1 b2 b3 b4 b5 a2 a3 x0 j2 j3 j4 j5 c1 c2 p1 p2 o0 g0 m1 m2 m3 m4 m5 m6 m7 m8 m9 m10 m11 m12 m13 m14 m15 m16 m17 m18 m19 m20 m21 : Nat} {H : Heap} {locs : List Loc} (hP : va_P (dC, dI) vwCl [(h0, .inr (6, [.ref a1, .int 0, .int (-1), .ref n0, .ref r0, .ref j0, .ref p0])), (a1, .inl (cI, 60, .inl zI)), (n0, .inr (2, [.ref b1, .ref b2, .ref b3, .ref b4, .ref b5, .int 0])), (b1, .inl (cI, 4096, .inl zI)), (b2, .inl (cI, 4096, .inl zI)), (b3, .inl (cI, 4096, .inl zI)), (b4, .inl (cI, 4096, .inl zI)), (b5, .inl (cZ, 4096, .inl zI)), (r0, .inr (4, [.ref n0, .ref a1, .ref a2, .ref a3, .int 0, .int 0, .int 0, .int 0, .int (-1)])), (a2, .inl (cI, 26, .inl zI)), (j0, .inr (1, [.ref n0, .ref x0, .ref j2, .ref j3, .ref j4, .ref j5, .int 0, .int 0, .int (-1), .int 0, .int 0])), (x0, .inr (0, [.ref n0, .ref c1, .ref c2, .int 0])), (p0, .inr (3, [.ref n0, .ref p1, .ref p2, .int 0, .int (-1), .int 0])), (o0, .inl (cL, 1, .inr (.inl zL))), (g0, .inr (7, [.int 0, .ref m1, .int 0, .int 0, .int 0, .int 0, .int (-1), .int 0, .int 0, .ref m2, .ref m3, .ref m4, .int 0, .ref m5, .ref m6, .ref m7, .int 0, .ref m8, .ref m9, .ref m10, .int 0, .int 0, .ref m11, .ref m12, .ref m13, .int 0, .int 0, .ref m14, .int 0, .ref m15, .ref m16, .ref m17, .int 0, .int 0, .ref m18, .ref m19, .ref m20, .int 0, .ref m21])), (m8, .inl (cI, 130, .inl zI)), (m9, .inl (cI, 130, .inl zI)), (m10, .inl (cI, 130, .inl zI))] H) (hD : va_D A [(h0, .inr (6, [.ref a1, .int 0, .int (-1), .ref n0, .ref r0, .ref j0, .ref p0])), (a1, .inl (cI, 60, .inl zI)), (n0, .inr (2, [.ref b1, .ref b2, .ref b3, .ref b4, .ref b5, .int 0])), (b1, .inl (cI, 4096, .inl zI)), (b2, .inl (cI, 4096, .inl zI)), (b3, .inl (cI, 4096, .inl zI)), (b4, .inl (cI, 4096, .inl zI)), (b5, .inl (cZ, 4096, .inl zI)), (r0, .inr (4, [.ref n0, .ref a1, .ref a2, .ref a3, .int 0, .int 0, .int 0, .int 0, .int (-1)])), (a2, .inl (cI, 26, .inl zI)), (j0, .inr (1, [.ref n0, .ref x0, .ref j2, .ref j3, .ref j4, .ref j5, .int 0, .int 0, .int (-1), .int 0, .int 0])), (x0, .inr (0, [.ref n0, .ref c1, .ref c2, .int 0])), (p0, .inr (3, [.ref n0, .ref p1, .ref p2, .int 0, .int (-1), .int 0])), (o0, .inl (cL, 1, .inr (.inl zL))), (g0, .inr (7, [.int 0, .ref m1, .int 0, .int 0, .int 0, .int 0, .int (-1), .int 0, .int 0, .ref m2, .ref m3, .ref m4, .int 0, .ref m5, .ref m6, .ref m7, .int 0, .ref m8, .ref m9, .ref m10, .int 0, .int 0, .ref m11, .ref m12, .ref m13, .int 0, .int 0, .ref m14, .int 0, .ref m15, .ref m16, .ref m17, .int 0, .int 0, .ref m18, .ref m19, .ref m20, .int 0, .ref m21])), (m8, .inl (cI, 130, .inl zI)), (m9, .inl (cI, 130, .inl zI)), (m10, .inl (cI, 130, .inl zI))]) (hS : va_S A s.heap H locs) {ls : Array Slot} (hl : lv_has ls 7 [(0, .ref b), (1, .ref h0), (2, .ref g0), (3, .ref o0), (4, .int 0)]) : W p l e room_1 s m #[Value.ref b] below meth c H locs 47 729261 (lw_Z below #[Value.ref b] s) (F0 m 235 ls []) := by
  obtain ⟨hx, hb, hr, hml, hown, hts, hX, hbl, hlocks, hgv⟩ := id C0
  have hg : ∀ w ∈ gw_all, w.before #[Value.ref b] s = true := fun w h => hts w (gw_in w h)
  refine W.widen (k := 47) (n := 729261) (Nat.le_of_ble_eq_true rfl) (Nat.le_of_ble_eq_true rfl) ?_
  refine lv_aload_n hx hb dL_law_235 rfl (lv_at hl 1 rfl) ?_
  refine lv_aload_n hx hb dL_law_236 rfl (lv_at hl 3 rfl) ?_
  have hPc := hP.sub (ws' := [(h0, .inr (6, [.ref a1, .int 0, .int (-1), .ref n0, .ref r0, .ref j0, .ref p0])), (a1, .inl (cI, 60, .inl zI)), (n0, .inr (2, [.ref b1, .ref b2, .ref b3, .ref b4, .ref b5, .int 0])), (b1, .inl (cI, 4096, .inl zI)), (b2, .inl (cI, 4096, .inl zI)), (b3, .inl (cI, 4096, .inl zI)), (b4, .inl (cI, 4096, .inl zI)), (b5, .inl (cZ, 4096, .inl zI)), (r0, .inr (4, [.ref n0, .ref a1, .ref a2, .ref a3, .int 0, .int 0, .int 0, .int 0, .int (-1)])), (a2, .inl (cI, 26, .inl zI)), (j0, .inr (1, [.ref n0, .ref x0, .ref j2, .ref j3, .ref j4, .ref j5, .int 0, .int 0, .int (-1), .int 0, .int 0])), (x0, .inr (0, [.ref n0, .ref c1, .ref c2, .int 0])), (p0, .inr (3, [.ref n0, .ref p1, .ref p2, .int 0, .int (-1), .int 0])), (o0, .inl (cL, 1, .inr (.inl zL)))]) [0, 1, 2, 3, 4, 5, 6, 7, 8, 9, 10, 11, 12, 13] rfl
  have hDc := hD.sub (ws' := [(h0, .inr (6, [.ref a1, .int 0, .int (-1), .ref n0, .ref r0, .ref j0, .ref p0])), (a1, .inl (cI, 60, .inl zI)), (n0, .inr (2, [.ref b1, .ref b2, .ref b3, .ref b4, .ref b5, .int 0])), (b1, .inl (cI, 4096, .inl zI)), (b2, .inl (cI, 4096, .inl zI)), (b3, .inl (cI, 4096, .inl zI)), (b4, .inl (cI, 4096, .inl zI)), (b5, .inl (cZ, 4096, .inl zI)), (r0, .inr (4, [.ref n0, .ref a1, .ref a2, .ref a3, .int 0, .int 0, .int 0, .int 0, .int (-1)])), (a2, .inl (cI, 26, .inl zI)), (j0, .inr (1, [.ref n0, .ref x0, .ref j2, .ref j3, .ref j4, .ref j5, .int 0, .int 0, .int (-1), .int 0, .int 0])), (x0, .inr (0, [.ref n0, .ref c1, .ref c2, .int 0])), (p0, .inr (3, [.ref n0, .ref p1, .ref p2, .int 0, .int (-1), .int 0])), (o0, .inl (cL, 1, .inr (.inl zL)))]) [0, 1, 2, 3, 4, 5, 6, 7, 8, 9, 10, 11, 12, 13] (by decide) rfl
  have hFc := va_free (wc := [(h0, .inr (6, [.ref a1, .int 0, .int (-1), .ref n0, .ref r0, .ref j0, .ref p0])), (a1, .inl (cI, 60, .inl zI)), (n0, .inr (2, [.ref b1, .ref b2, .ref b3, .ref b4, .ref b5, .int 0])), (b1, .inl (cI, 4096, .inl zI)), (b2, .inl (cI, 4096, .inl zI)), (b3, .inl (cI, 4096, .inl zI)), (b4, .inl (cI, 4096, .inl zI)), (b5, .inl (cZ, 4096, .inl zI)), (r0, .inr (4, [.ref n0, .ref a1, .ref a2, .ref a3, .int 0, .int 0, .int 0, .int 0, .int (-1)])), (a2, .inl (cI, 26, .inl zI)), (j0, .inr (1, [.ref n0, .ref x0, .ref j2, .ref j3, .ref j4, .ref j5, .int 0, .int 0, .int (-1), .int 0, .int 0])), (x0, .inr (0, [.ref n0, .ref c1, .ref c2, .int 0])), (p0, .inr (3, [.ref n0, .ref p1, .ref p2, .int 0, .int (-1), .int 0])), (o0, .inl (cL, 1, .inr (.inl zL)))]) hD hS hA [0, 1, 2, 3, 4, 5, 6, 7, 8, 9, 10, 11, 12, 13] rfl
  refine va_calli (vx_runSW (As := [.ref h0, .ref o0]) (rest := []) ⟨hx, hb, hml, hown, hg⟩ (c_L_below l dC dI cI cZ cL h0 a1 n0 b1 b2 b3 b4 b5 r0 a2 j0 x0 p0 o0 (Array.size _) a3 j2 j3 j4 j5 c1 c2 p1 p2 zL hst) (vx_cwSW 2 hg (gw_S k_342 k_343 k_335 g_yL_below) rfl rfl rfl (by decide +kernel) ⟨(Nat.le_of_ble_eq_true rfl), (Nat.le_of_ble_eq_true rfl)⟩) ⟨hpx_bl, fun U hU hW => hpx_ok hU hW hPc hK hDc hE hS hFc⟩ rfl rfl hl.1 rfl (lv_room (Nat.le_of_ble_eq_true rfl)) dL_law_237 ⟨(Nat.le_of_ble_eq_true rfl), (Nat.le_of_ble_eq_true rfl)⟩) hS (fun q _ h => hFc q h) hFc (fun r9 u t H locs ht hvm hw hB hz1 hk1 hS => ?_)
  obtain ⟨hP1, hD1⟩ := hB
  rw [ht] at hP1
  obtain ⟨hP, hD⟩ := va_join (wr := [(g0, .inr (7, [.int 0, .ref m1, .int 0, .int 0, .int 0, .int 0, .int (-1), .int 0, .int 0, .ref m2, .ref m3, .ref m4, .int 0, .ref m5, .ref m6, .ref m7, .int 0, .ref m8, .ref m9, .ref m10, .int 0, .int 0, .ref m11, .ref m12, .ref m13, .int 0, .int 0, .ref m14, .int 0, .ref m15, .ref m16, .ref m17, .int 0, .int 0, .ref m18, .ref m19, .ref m20, .int 0, .ref m21])), (m8, .inl (cI, 130, .inl zI)), (m9, .inl (cI, 130, .inl zI)), (m10, .inl (cI, 130, .inl zI))]) (w1 := [(o0, .inl (cL, 1, .inr (.inl zL)))]) hP hD [0, 1, 2, 3, 4, 5, 6, 7, 8, 9, 10, 11, 12, 13] [14, 15, 16, 17] rfl rfl (by decide) (by decide) hk1 hFc hP1 hD1
  have hP : va_P (dC, dI) vwCl [(g0, .inr (7, [.int 0, .ref m1, .int 0, .int 0, .int 0, .int 0, .int (-1), .int 0, .int 0, .ref m2, .ref m3, .ref m4, .int 0, .ref m5, .ref m6, .ref m7, .int 0, .ref m8, .ref m9, .ref m10, .int 0, .int 0, .ref m11, .ref m12, .ref m13, .int 0, .int 0, .ref m14, .int 0, .ref m15, .ref m16, .ref m17, .int 0, .int 0, .ref m18, .ref m19, .ref m20, .int 0, .ref m21])), (m8, .inl (cI, 130, .inl zI)), (m9, .inl (cI, 130, .inl zI)), (m10, .inl (cI, 130, .inl zI)), (o0, .inl (cL, 1, .inr (.inl zL)))] H := hP
  have hD : va_D A [(g0, .inr (7, [.int 0, .ref m1, .int 0, .int 0, .int 0, .int 0, .int (-1), .int 0, .int 0, .ref m2, .ref m3, .ref m4, .int 0, .ref m5, .ref m6, .ref m7, .int 0, .ref m8, .ref m9, .ref m10, .int 0, .int 0, .ref m11, .ref m12, .ref m13, .int 0, .int 0, .ref m14, .int 0, .ref m15, .ref m16, .ref m17, .int 0, .int 0, .ref m18, .ref m19, .ref m20, .int 0, .ref m21])), (m8, .inl (cI, 130, .inl zI)), (m9, .inl (cI, 130, .inl zI)), (m10, .inl (cI, 130, .inl zI)), (o0, .inl (cL, 1, .inr (.inl zL)))] := hD
  refine W.widen (k := 48) (n := 729267) (Nat.le_of_ble_eq_true rfl) (Nat.le_of_ble_eq_true rfl) ?_
  obtain rfl : r9 = 1 := hw
  refine lv_istore (lv' := [(5, .int 1), (0, .ref b), (1, .ref h0), (2, .ref g0), (3, .ref o0), (4, .int 0)]) hx hb dL_law_240 hl (by decide) rfl (fun ls hl => ?_)
  refine lv_aload_n hx hb dL_law_242 rfl (lv_at hl 3 rfl) ?_
  have hPc := hP.sub (ws' := [(g0, .inr (7, [.int 0, .ref m1, .int 0, .int 0, .int 0, .int 0, .int (-1), .int 0, .int 0, .ref m2, .ref m3, .ref m4, .int 0, .ref m5, .ref m6, .ref m7, .int 0, .ref m8, .ref m9, .ref m10, .int 0, .int 0, .ref m11, .ref m12, .ref m13, .int 0, .int 0, .ref m14, .int 0, .ref m15, .ref m16, .ref m17, .int 0, .int 0, .ref m18, .ref m19, .ref m20, .int 0, .ref m21])), (m8, .inl (cI, 130, .inl zI)), (m9, .inl (cI, 130, .inl zI)), (m10, .inl (cI, 130, .inl zI))]) [0, 1, 2, 3] rfl
  have hDc := hD.sub (ws' := [(g0, .inr (7, [.int 0, .ref m1, .int 0, .int 0, .int 0, .int 0, .int (-1), .int 0, .int 0, .ref m2, .ref m3, .ref m4, .int 0, .ref m5, .ref m6, .ref m7, .int 0, .ref m8, .ref m9, .ref m10, .int 0, .int 0, .ref m11, .ref m12, .ref m13, .int 0, .int 0, .ref m14, .int 0, .ref m15, .ref m16, .ref m17, .int 0, .int 0, .ref m18, .ref m19, .ref m20, .int 0, .ref m21])), (m8, .inl (cI, 130, .inl zI)), (m9, .inl (cI, 130, .inl zI)), (m10, .inl (cI, 130, .inl zI))]) [0, 1, 2, 3] (by decide) rfl
  have hFc := va_free (wc := [(g0, .inr (7, [.int 0, .ref m1, .int 0, .int 0, .int 0, .int 0, .int (-1), .int 0, .int 0, .ref m2, .ref m3, .ref m4, .int 0, .ref m5, .ref m6, .ref m7, .int 0, .ref m8, .ref m9, .ref m10, .int 0, .int 0, .ref m11, .ref m12, .ref m13, .int 0, .int 0, .ref m14, .int 0, .ref m15, .ref m16, .ref m17, .int 0, .int 0, .ref m18, .ref m19, .ref m20, .int 0, .ref m21])), (m8, .inl (cI, 130, .inl zI)), (m9, .inl (cI, 130, .inl zI)), (m10, .inl (cI, 130, .inl zI))]) hD hS hA [0, 1, 2, 3] rfl
  refine va_calli (va_runV (As := []) (rest := []) ⟨hx, hb, hml, hown, hg⟩ (c_X7_below l dC dI cI cZ cL g0 m8 m9 m10 (Array.size _) m1 m2 m3 m4 m5 m6 m7 m11 m12 m13 m14 m15 m16 m17 m18 m19 m20 m21) (cwV 0 hg (gw_V k_344 k_345 k_346 k_245 g_yX7_below) rfl rfl rfl (by decide +kernel) ⟨(Nat.le_of_ble_eq_true rfl), (Nat.le_of_ble_eq_true rfl)⟩) ⟨hp_bl, va_recv hK hPc (ci := 7) (q0 := 0) rfl rfl, fun U hU hW => hp_ok hU hW hPc hK hDc⟩ rfl rfl hl.1 rfl (lv_room (Nat.le_of_ble_eq_true rfl)) dL_law_243 ⟨(Nat.le_of_ble_eq_true rfl), (Nat.le_of_ble_eq_true rfl)⟩) hS (fun q _ h => hFc q h) hFc (fun r9 u t H locs ht hvm hw hB hz1 hk1 hS => ?_)
  obtain ⟨hP1, hD1⟩ := hB
  rw [ht] at hP1
  obtain ⟨hP, hD⟩ := va_join (wr := [(o0, .inl (cL, 1, .inr (.inl zL)))]) (w1 := [(g0, .inr (7, [.int 1, .ref m1, .int 0, .int 0, .int 1, .int 1, .int 0, .int 0, .int 0, .ref m2, .ref m3, .ref m4, .int 0, .ref m5, .ref m6, .ref m7, .int 0, .ref m8, .ref m9, .ref m10, .int 1, .int 0, .ref m11, .ref m12, .ref m13, .int 0, .int 0, .ref m14, .int 0, .ref m15, .ref m16, .ref m17, .int 0, .int 0, .ref m18, .ref m19, .ref m20, .int 0, .ref m21]))]) hP hD [0, 1, 2, 3] [4] rfl rfl (by decide) (by decide) hk1 hFc hP1 hD1
  have hP : va_P (dC, dI) vwCl [(o0, .inl (cL, 1, .inr (.inl zL))), (g0, .inr (7, [.int 1, .ref m1, .int 0, .int 0, .int 1, .int 1, .int 0, .int 0, .int 0, .ref m2, .ref m3, .ref m4, .int 0, .ref m5, .ref m6, .ref m7, .int 0, .ref m8, .ref m9, .ref m10, .int 1, .int 0, .ref m11, .ref m12, .ref m13, .int 0, .int 0, .ref m14, .int 0, .ref m15, .ref m16, .ref m17, .int 0, .int 0, .ref m18, .ref m19, .ref m20, .int 0, .ref m21]))] H := hP
  have hD : va_D A [(o0, .inl (cL, 1, .inr (.inl zL))), (g0, .inr (7, [.int 1, .ref m1, .int 0, .int 0, .int 1, .int 1, .int 0, .int 0, .int 0, .ref m2, .ref m3, .ref m4, .int 0, .ref m5, .ref m6, .ref m7, .int 0, .ref m8, .ref m9, .ref m10, .int 1, .int 0, .ref m11, .ref m12, .ref m13, .int 0, .int 0, .ref m14, .int 0, .ref m15, .ref m16, .ref m17, .int 0, .int 0, .ref m18, .ref m19, .ref m20, .int 0, .ref m21]))] := hD
  refine W.widen (k := 48) (n := 729267) (Nat.le_of_ble_eq_true rfl) (Nat.le_of_ble_eq_true rfl) ?_
  obtain rfl : r9 = 0 := hw
  refine lv_istore (lv' := [(6, .int 0), (5, .int 1), (0, .ref b), (1, .ref h0), (2, .ref g0), (3, .ref o0), (4, .int 0)]) hx hb dL_law_246 hl (by decide) rfl (fun ls hl => ?_)
  refine lv_aload_n hx hb dL_law_248 rfl (lv_at hl 4 rfl) ?_
  have hPc := hP.sub (ws' := [(g0, .inr (7, [.int 1, .ref m1, .int 0, .int 0, .int 1, .int 1, .int 0, .int 0, .int 0, .ref m2, .ref m3, .ref m4, .int 0, .ref m5, .ref m6, .ref m7, .int 0, .ref m8, .ref m9, .ref m10, .int 1, .int 0, .ref m11, .ref m12, .ref m13, .int 0, .int 0, .ref m14, .int 0, .ref m15, .ref m16, .ref m17, .int 0, .int 0, .ref m18, .ref m19, .ref m20, .int 0, .ref m21]))]) [1] rfl
  have hDc := hD.sub (ws' := [(g0, .inr (7, [.int 1, .ref m1, .int 0, .int 0, .int 1, .int 1, .int 0, .int 0, .int 0, .ref m2, .ref m3, .ref m4, .int 0, .ref m5, .ref m6, .ref m7, .int 0, .ref m8, .ref m9, .ref m10, .int 1, .int 0, .ref m11, .ref m12, .ref m13, .int 0, .int 0, .ref m14, .int 0, .ref m15, .ref m16, .ref m17, .int 0, .int 0, .ref m18, .ref m19, .ref m20, .int 0, .ref m21]))]) [1] (by decide) rfl
  have hFc := va_free (wc := [(g0, .inr (7, [.int 1, .ref m1, .int 0, .int 0, .int 1, .int 1, .int 0, .int 0, .int 0, .ref m2, .ref m3, .ref m4, .int 0, .ref m5, .ref m6, .ref m7, .int 0, .ref m8, .ref m9, .ref m10, .int 1, .int 0, .ref m11, .ref m12, .ref m13, .int 0, .int 0, .ref m14, .int 0, .ref m15, .ref m16, .ref m17, .int 0, .int 0, .ref m18, .ref m19, .ref m20, .int 0, .ref m21]))]) hD hS hA [1] rfl
  refine va_calli (va_runV (As := []) (rest := []) ⟨hx, hb, hml, hown, hg⟩ (c_X7_thrown l dC dI cI cZ cL g0 (Array.size _) 1 [.ref m1, .int 0, .int 0, .int 1, .int 1, .int 0, .int 0, .int 0, .ref m2, .ref m3, .ref m4, .int 0, .ref m5, .ref m6, .ref m7, .int 0, .ref m8, .ref m9, .ref m10, .int 1, .int 0, .ref m11, .ref m12, .ref m13, .int 0, .int 0, .ref m14, .int 0, .ref m15, .ref m16, .ref m17, .int 0, .int 0, .ref m18, .ref m19, .ref m20, .int 0, .ref m21]) (cwV 0 hg (gw_V k_339 k_340 k_341 k_245 g_yX7_thrown) rfl rfl rfl (by decide +kernel) ⟨(Nat.le_of_ble_eq_true rfl), (Nat.le_of_ble_eq_true rfl)⟩) ⟨hp_bl, va_recv hK hPc (ci := 7) (q0 := 0) rfl rfl, fun U hU hW => hp_ok hU hW hPc hK hDc⟩ rfl rfl hl.1 rfl (lv_room (Nat.le_of_ble_eq_true rfl)) dL_law_249 ⟨(Nat.le_of_ble_eq_true rfl), (Nat.le_of_ble_eq_true rfl)⟩) hS (fun q _ h => hFc q h) hFc (fun r9 u t H locs ht hvm hw hB hz1 hk1 hS => ?_)
  obtain ⟨hP1, hD1⟩ := hB
  rw [ht] at hP1
  obtain ⟨hP, hD⟩ := va_join (wr := [(o0, .inl (cL, 1, .inr (.inl zL)))]) (w1 := []) hP hD [1] [0] rfl rfl (by decide) (by decide) hk1 hFc hP1 hD1
  have hP : va_P (dC, dI) vwCl [(o0, .inl (cL, 1, .inr (.inl zL)))] H := hP
  have hD : va_D A [(o0, .inl (cL, 1, .inr (.inl zL)))] := hD
  refine W.widen (k := 48) (n := 729267) (Nat.le_of_ble_eq_true rfl) (Nat.le_of_ble_eq_true rfl) ?_
  obtain rfl : r9 = 1 := hw
  refine lv_iload hx hb dL_law_252 (lv_at hl 1 rfl) ?_
  refine lv_icmp_eq (tgt := 259) hx hb dL_law_254 (by decide) (fun _ => ?_) (fun c9 => absurd (by decide) c9)
  refine lv_iload hx hb dL_law_259 (lv_at hl 1 rfl) ?_
  refine lv_if_ne (tgt := 283) hx hb dL_law_261 (by decide) (fun _ => ?_) (fun c9 => absurd c9 (by decide))
  refine lv_goto (tgt := 394) hx hb dL_law_283 (by decide) ?_
  exact law_tail hbA hAf C0 (Nat.le_of_ble_eq_true rfl) (Nat.le_of_ble_eq_true rfl) hS (lv_sub hl [2, 6] rfl)

set_option maxHeartbeats 4000000 in
set_option maxRecDepth 100000 in
theorem law_5N {p : Program} {l : Launch} {e : Env} {s : State} {m : MethodId} {below : List Frame} {meth : Method} {c : Code} {b : Nat} {xs : Nat → Int32} {dC : Nat → ClassId} {dI : Nat → Nat → Nat} {cI cZ cL : ClassId} {A : Nat → Prop} (hst : l.stackTraces = false) (hA : ∀ q : Nat, s.heap.size ≤ q → A q) (hbA : ¬ A b) (hAf : ∀ q, A q → s.heap.size ≤ q) (C0 : lw_At p s m meth c b 4 xs) (hK : va_K (dC, dI) vwCl (t3 cI cZ cL) s) (hE : ex A s) {h0 a1 n0 r0 j0 p0 p1 p2 b1 b2 b3 b4 b5 o0 g0 m1 m2 m3 m4 m5 m6 m7 m8 m9 m10 m11 m12 m13 m14 m15 m16 m17 m18 m19 m20 m21 : Nat} {H : Heap} {locs : List Loc} (hP : va_P (dC, dI) vwCl [(h0, .inr (6, [.ref a1, .int 0, .int (-1), .ref n0, .ref r0, .ref j0, .ref p0])), (p0, .inr (3, [.ref n0, .ref p1, .ref p2, .int 0, .int (-1), .int 0])), (n0, .inr (2, [.ref b1, .ref b2, .ref b3, .ref b4, .ref b5, .int 0])), (o0, .inl (cL, 1, .inr (.inl zL))), (g0, .inr (7, [.int 0, .ref m1, .int 0, .int 0, .int 0, .int 0, .int (-1), .int 0, .int 0, .ref m2, .ref m3, .ref m4, .int 0, .ref m5, .ref m6, .ref m7, .int 0, .ref m8, .ref m9, .ref m10, .int 0, .int 0, .ref m11, .ref m12, .ref m13, .int 0, .int 0, .ref m14, .int 0, .ref m15, .ref m16, .ref m17, .int 0, .int 0, .ref m18, .ref m19, .ref m20, .int 0, .ref m21]))] H) (hD : va_D A [(h0, .inr (6, [.ref a1, .int 0, .int (-1), .ref n0, .ref r0, .ref j0, .ref p0])), (p0, .inr (3, [.ref n0, .ref p1, .ref p2, .int 0, .int (-1), .int 0])), (n0, .inr (2, [.ref b1, .ref b2, .ref b3, .ref b4, .ref b5, .int 0])), (o0, .inl (cL, 1, .inr (.inl zL))), (g0, .inr (7, [.int 0, .ref m1, .int 0, .int 0, .int 0, .int 0, .int (-1), .int 0, .int 0, .ref m2, .ref m3, .ref m4, .int 0, .ref m5, .ref m6, .ref m7, .int 0, .ref m8, .ref m9, .ref m10, .int 0, .int 0, .ref m11, .ref m12, .ref m13, .int 0, .int 0, .ref m14, .int 0, .ref m15, .ref m16, .ref m17, .int 0, .int 0, .ref m18, .ref m19, .ref m20, .int 0, .ref m21]))]) (hS : va_S A s.heap H locs) {ls : Array Slot} (hl : lv_has ls 7 [(0, .ref b), (1, .ref h0), (2, .ref g0), (3, .ref o0), (4, .int 0)]) (hn : xs 1 < 0) : W p l e room_1 s m #[Value.ref b] below meth c H locs 47 729261 (lw_Z below #[Value.ref b] s) (F0 m 312 ls []) := by
  obtain ⟨hx, hb, hr, hml, hown, hts, hX, hbl, hlocks, hgv⟩ := id C0
  have hg : ∀ w ∈ gw_all, w.before #[Value.ref b] s = true := fun w h => hts w (gw_in w h)
  refine W.widen (k := 47) (n := 729261) (Nat.le_of_ble_eq_true rfl) (Nat.le_of_ble_eq_true rfl) ?_
  refine lv_aload_n hx hb dL_law_312 rfl (lv_at hl 1 rfl) ?_
  refine lv_aload_n hx hb dL_law_313 rfl (lv_at hl 0 rfl) ?_
  refine lv_iload hx hb dL_law_314 (lv_at hl 4 rfl) ?_
  refine lv_iconst (v := 1) hx hb dL_law_316 (by decide) ?_
  refine lv_iadd hx hb dL_law_317 ?_
  refine lv_topi (fun z1 ez1 => ?_)
  obtain rfl : z1 = 1 := ez1.trans (by decide)
  refine va_sld hx hb hX hbl hbA hS (vp_lit (by decide) (by decide)) dL_law_318 ?_
  refine lv_topi (fun z2 ez2 => ?_)
  obtain rfl : z2 = xs 1 := ez2
  refine lv_aload_n hx hb dL_law_319 rfl (lv_at hl 3 rfl) ?_
  have hPc := hP.sub (ws' := [(h0, .inr (6, [.ref a1, .int 0, .int (-1), .ref n0, .ref r0, .ref j0, .ref p0])), (p0, .inr (3, [.ref n0, .ref p1, .ref p2, .int 0, .int (-1), .int 0])), (n0, .inr (2, [.ref b1, .ref b2, .ref b3, .ref b4, .ref b5, .int 0])), (o0, .inl (cL, 1, .inr (.inl zL)))]) [0, 1, 2, 3] rfl
  have hDc := hD.sub (ws' := [(h0, .inr (6, [.ref a1, .int 0, .int (-1), .ref n0, .ref r0, .ref j0, .ref p0])), (p0, .inr (3, [.ref n0, .ref p1, .ref p2, .int 0, .int (-1), .int 0])), (n0, .inr (2, [.ref b1, .ref b2, .ref b3, .ref b4, .ref b5, .int 0])), (o0, .inl (cL, 1, .inr (.inl zL)))]) [0, 1, 2, 3] (by decide) rfl
  have hFc := va_free (wc := [(h0, .inr (6, [.ref a1, .int 0, .int (-1), .ref n0, .ref r0, .ref j0, .ref p0])), (p0, .inr (3, [.ref n0, .ref p1, .ref p2, .int 0, .int (-1), .int 0])), (n0, .inr (2, [.ref b1, .ref b2, .ref b3, .ref b4, .ref b5, .int 0])), (o0, .inl (cL, 1, .inr (.inl zL)))]) hD hS hA [0, 1, 2, 3] rfl
  refine va_calli (vx_runSW (As := [.ref h0, .int (xs 1), .ref o0]) (rest := []) ⟨hx, hb, hml, hown, hg⟩ (c_L_outN l dC dI cI cZ cL h0 p0 n0 o0 (Array.size _) r0 j0 a1 p1 p2 b1 b2 b3 b4 b5 (xs 1) zL hst hn) (vx_cwSW 3 hg (gw_S k_347 k_348 k_335 g_yL_out) rfl rfl rfl (by decide +kernel) ⟨(Nat.le_of_ble_eq_true rfl), (Nat.le_of_ble_eq_true rfl)⟩) ⟨hpx_bl, fun U hU hW => hpx_ok hU hW hPc hK hDc hE hS hFc⟩ rfl rfl hl.1 rfl (lv_room (Nat.le_of_ble_eq_true rfl)) dL_law_320 ⟨(Nat.le_of_ble_eq_true rfl), (Nat.le_of_ble_eq_true rfl)⟩) hS (fun q _ h => hFc q h) hFc (fun r9 u t H locs ht hvm hw hB hz1 hk1 hS => ?_)
  obtain ⟨hP1, hD1⟩ := hB
  rw [ht] at hP1
  obtain ⟨hP, hD⟩ := va_join (wr := [(g0, .inr (7, [.int 0, .ref m1, .int 0, .int 0, .int 0, .int 0, .int (-1), .int 0, .int 0, .ref m2, .ref m3, .ref m4, .int 0, .ref m5, .ref m6, .ref m7, .int 0, .ref m8, .ref m9, .ref m10, .int 0, .int 0, .ref m11, .ref m12, .ref m13, .int 0, .int 0, .ref m14, .int 0, .ref m15, .ref m16, .ref m17, .int 0, .int 0, .ref m18, .ref m19, .ref m20, .int 0, .ref m21]))]) (w1 := [(o0, .inl (cL, 1, .inr (.inl zL)))]) hP hD [0, 1, 2, 3] [4] rfl rfl (by decide) (by decide) hk1 hFc hP1 hD1
  have hP : va_P (dC, dI) vwCl [(g0, .inr (7, [.int 0, .ref m1, .int 0, .int 0, .int 0, .int 0, .int (-1), .int 0, .int 0, .ref m2, .ref m3, .ref m4, .int 0, .ref m5, .ref m6, .ref m7, .int 0, .ref m8, .ref m9, .ref m10, .int 0, .int 0, .ref m11, .ref m12, .ref m13, .int 0, .int 0, .ref m14, .int 0, .ref m15, .ref m16, .ref m17, .int 0, .int 0, .ref m18, .ref m19, .ref m20, .int 0, .ref m21])), (o0, .inl (cL, 1, .inr (.inl zL)))] H := hP
  have hD : va_D A [(g0, .inr (7, [.int 0, .ref m1, .int 0, .int 0, .int 0, .int 0, .int (-1), .int 0, .int 0, .ref m2, .ref m3, .ref m4, .int 0, .ref m5, .ref m6, .ref m7, .int 0, .ref m8, .ref m9, .ref m10, .int 0, .int 0, .ref m11, .ref m12, .ref m13, .int 0, .int 0, .ref m14, .int 0, .ref m15, .ref m16, .ref m17, .int 0, .int 0, .ref m18, .ref m19, .ref m20, .int 0, .ref m21])), (o0, .inl (cL, 1, .inr (.inl zL)))] := hD
  refine W.widen (k := 48) (n := 729267) (Nat.le_of_ble_eq_true rfl) (Nat.le_of_ble_eq_true rfl) ?_
  obtain rfl : r9 = 1 := hw
  refine lv_istore (lv' := [(5, .int 1), (0, .ref b), (1, .ref h0), (2, .ref g0), (3, .ref o0), (4, .int 0)]) hx hb dL_law_323 hl (by decide) rfl (fun ls hl => ?_)
  refine lv_aload_n hx hb dL_law_325 rfl (lv_at hl 3 rfl) ?_
  refine lv_aload_n hx hb dL_law_326 rfl (lv_at hl 1 rfl) ?_
  refine lv_iload hx hb dL_law_327 (lv_at hl 5 rfl) ?_
  refine lv_iconst (v := 1) hx hb dL_law_329 (by decide) ?_
  refine lv_iadd hx hb dL_law_330 ?_
  refine lv_topi (fun z3 ez3 => ?_)
  obtain rfl : z3 = 1 := ez3.trans (by decide)
  refine va_sld hx hb hX hbl hbA hS (vp_lit (by decide) (by decide)) dL_law_331 ?_
  refine lv_topi (fun z4 ez4 => ?_)
  obtain rfl : z4 = xs 1 := ez4
  have hPc := hP.sub (ws' := [(g0, .inr (7, [.int 0, .ref m1, .int 0, .int 0, .int 0, .int 0, .int (-1), .int 0, .int 0, .ref m2, .ref m3, .ref m4, .int 0, .ref m5, .ref m6, .ref m7, .int 0, .ref m8, .ref m9, .ref m10, .int 0, .int 0, .ref m11, .ref m12, .ref m13, .int 0, .int 0, .ref m14, .int 0, .ref m15, .ref m16, .ref m17, .int 0, .int 0, .ref m18, .ref m19, .ref m20, .int 0, .ref m21]))]) [0] rfl
  have hDc := hD.sub (ws' := [(g0, .inr (7, [.int 0, .ref m1, .int 0, .int 0, .int 0, .int 0, .int (-1), .int 0, .int 0, .ref m2, .ref m3, .ref m4, .int 0, .ref m5, .ref m6, .ref m7, .int 0, .ref m8, .ref m9, .ref m10, .int 0, .int 0, .ref m11, .ref m12, .ref m13, .int 0, .int 0, .ref m14, .int 0, .ref m15, .ref m16, .ref m17, .int 0, .int 0, .ref m18, .ref m19, .ref m20, .int 0, .ref m21]))]) [0] (by decide) rfl
  have hFc := va_free (wc := [(g0, .inr (7, [.int 0, .ref m1, .int 0, .int 0, .int 0, .int 0, .int (-1), .int 0, .int 0, .ref m2, .ref m3, .ref m4, .int 0, .ref m5, .ref m6, .ref m7, .int 0, .ref m8, .ref m9, .ref m10, .int 0, .int 0, .ref m11, .ref m12, .ref m13, .int 0, .int 0, .ref m14, .int 0, .ref m15, .ref m16, .ref m17, .int 0, .int 0, .ref m18, .ref m19, .ref m20, .int 0, .ref m21]))]) hD hS hA [0] rfl
  refine va_calli (va_runV (As := [.int (xs 1)]) (rest := []) ⟨hx, hb, hml, hown, hg⟩ (c_X7_outN l dC dI cI cZ cL g0 (Array.size _) m1 m2 m3 m4 m5 m6 m7 m8 m9 m10 m11 m12 m13 m14 m15 m16 m17 m18 m19 m20 m21 (xs 1) hn) (cwV 1 hg (gw_V k_349 k_350 k_351 k_245 g_yX7_out) rfl rfl rfl (by decide +kernel) ⟨(Nat.le_of_ble_eq_true rfl), (Nat.le_of_ble_eq_true rfl)⟩) ⟨hp_bl, va_recv hK hPc (ci := 7) (q0 := 0) rfl rfl, fun U hU hW => hp_ok hU hW hPc hK hDc⟩ rfl rfl hl.1 rfl (lv_room (Nat.le_of_ble_eq_true rfl)) dL_law_332 ⟨(Nat.le_of_ble_eq_true rfl), (Nat.le_of_ble_eq_true rfl)⟩) hS (fun q _ h => hFc q h) hFc (fun r9 u t H locs ht hvm hw hB hz1 hk1 hS => ?_)
  obtain ⟨hP1, hD1⟩ := hB
  rw [ht] at hP1
  obtain ⟨hP, hD⟩ := va_join (wr := [(o0, .inl (cL, 1, .inr (.inl zL)))]) (w1 := [(g0, .inr (7, [.int 1, .ref m1, .int 0, .int 0, .int 0, .int 0, .int (-1), .int 0, .int 0, .ref m2, .ref m3, .ref m4, .int 0, .ref m5, .ref m6, .ref m7, .int 0, .ref m8, .ref m9, .ref m10, .int 0, .int 0, .ref m11, .ref m12, .ref m13, .int 0, .int 0, .ref m14, .int 0, .ref m15, .ref m16, .ref m17, .int 0, .int 0, .ref m18, .ref m19, .ref m20, .int 0, .ref m21]))]) hP hD [0] [1] rfl rfl (by decide) (by decide) hk1 hFc hP1 hD1
  have hP : va_P (dC, dI) vwCl [(o0, .inl (cL, 1, .inr (.inl zL))), (g0, .inr (7, [.int 1, .ref m1, .int 0, .int 0, .int 0, .int 0, .int (-1), .int 0, .int 0, .ref m2, .ref m3, .ref m4, .int 0, .ref m5, .ref m6, .ref m7, .int 0, .ref m8, .ref m9, .ref m10, .int 0, .int 0, .ref m11, .ref m12, .ref m13, .int 0, .int 0, .ref m14, .int 0, .ref m15, .ref m16, .ref m17, .int 0, .int 0, .ref m18, .ref m19, .ref m20, .int 0, .ref m21]))] H := hP
  have hD : va_D A [(o0, .inl (cL, 1, .inr (.inl zL))), (g0, .inr (7, [.int 1, .ref m1, .int 0, .int 0, .int 0, .int 0, .int (-1), .int 0, .int 0, .ref m2, .ref m3, .ref m4, .int 0, .ref m5, .ref m6, .ref m7, .int 0, .ref m8, .ref m9, .ref m10, .int 0, .int 0, .ref m11, .ref m12, .ref m13, .int 0, .int 0, .ref m14, .int 0, .ref m15, .ref m16, .ref m17, .int 0, .int 0, .ref m18, .ref m19, .ref m20, .int 0, .ref m21]))] := hD
  refine W.widen (k := 48) (n := 729267) (Nat.le_of_ble_eq_true rfl) (Nat.le_of_ble_eq_true rfl) ?_
  obtain rfl : r9 = 0 := hw
  refine lv_istore (lv' := [(6, .int 0), (5, .int 1), (0, .ref b), (1, .ref h0), (2, .ref g0), (3, .ref o0), (4, .int 0)]) hx hb dL_law_335 hl (by decide) rfl (fun ls hl => ?_)
  refine lv_aload_n hx hb dL_law_337 rfl (lv_at hl 4 rfl) ?_
  have hPc := hP.sub (ws' := [(g0, .inr (7, [.int 1, .ref m1, .int 0, .int 0, .int 0, .int 0, .int (-1), .int 0, .int 0, .ref m2, .ref m3, .ref m4, .int 0, .ref m5, .ref m6, .ref m7, .int 0, .ref m8, .ref m9, .ref m10, .int 0, .int 0, .ref m11, .ref m12, .ref m13, .int 0, .int 0, .ref m14, .int 0, .ref m15, .ref m16, .ref m17, .int 0, .int 0, .ref m18, .ref m19, .ref m20, .int 0, .ref m21]))]) [1] rfl
  have hDc := hD.sub (ws' := [(g0, .inr (7, [.int 1, .ref m1, .int 0, .int 0, .int 0, .int 0, .int (-1), .int 0, .int 0, .ref m2, .ref m3, .ref m4, .int 0, .ref m5, .ref m6, .ref m7, .int 0, .ref m8, .ref m9, .ref m10, .int 0, .int 0, .ref m11, .ref m12, .ref m13, .int 0, .int 0, .ref m14, .int 0, .ref m15, .ref m16, .ref m17, .int 0, .int 0, .ref m18, .ref m19, .ref m20, .int 0, .ref m21]))]) [1] (by decide) rfl
  have hFc := va_free (wc := [(g0, .inr (7, [.int 1, .ref m1, .int 0, .int 0, .int 0, .int 0, .int (-1), .int 0, .int 0, .ref m2, .ref m3, .ref m4, .int 0, .ref m5, .ref m6, .ref m7, .int 0, .ref m8, .ref m9, .ref m10, .int 0, .int 0, .ref m11, .ref m12, .ref m13, .int 0, .int 0, .ref m14, .int 0, .ref m15, .ref m16, .ref m17, .int 0, .int 0, .ref m18, .ref m19, .ref m20, .int 0, .ref m21]))]) hD hS hA [1] rfl
  refine va_calli (va_runV (As := []) (rest := []) ⟨hx, hb, hml, hown, hg⟩ (c_X7_thrown l dC dI cI cZ cL g0 (Array.size _) 1 [.ref m1, .int 0, .int 0, .int 0, .int 0, .int (-1), .int 0, .int 0, .ref m2, .ref m3, .ref m4, .int 0, .ref m5, .ref m6, .ref m7, .int 0, .ref m8, .ref m9, .ref m10, .int 0, .int 0, .ref m11, .ref m12, .ref m13, .int 0, .int 0, .ref m14, .int 0, .ref m15, .ref m16, .ref m17, .int 0, .int 0, .ref m18, .ref m19, .ref m20, .int 0, .ref m21]) (cwV 0 hg (gw_V k_339 k_340 k_341 k_245 g_yX7_thrown) rfl rfl rfl (by decide +kernel) ⟨(Nat.le_of_ble_eq_true rfl), (Nat.le_of_ble_eq_true rfl)⟩) ⟨hp_bl, va_recv hK hPc (ci := 7) (q0 := 0) rfl rfl, fun U hU hW => hp_ok hU hW hPc hK hDc⟩ rfl rfl hl.1 rfl (lv_room (Nat.le_of_ble_eq_true rfl)) dL_law_338 ⟨(Nat.le_of_ble_eq_true rfl), (Nat.le_of_ble_eq_true rfl)⟩) hS (fun q _ h => hFc q h) hFc (fun r9 u t H locs ht hvm hw hB hz1 hk1 hS => ?_)
  obtain ⟨hP1, hD1⟩ := hB
  rw [ht] at hP1
  obtain ⟨hP, hD⟩ := va_join (wr := [(o0, .inl (cL, 1, .inr (.inl zL)))]) (w1 := []) hP hD [1] [0] rfl rfl (by decide) (by decide) hk1 hFc hP1 hD1
  have hP : va_P (dC, dI) vwCl [(o0, .inl (cL, 1, .inr (.inl zL)))] H := hP
  have hD : va_D A [(o0, .inl (cL, 1, .inr (.inl zL)))] := hD
  refine W.widen (k := 48) (n := 729267) (Nat.le_of_ble_eq_true rfl) (Nat.le_of_ble_eq_true rfl) ?_
  obtain rfl : r9 = 1 := hw
  refine lv_iload hx hb dL_law_341 (lv_at hl 1 rfl) ?_
  refine lv_icmp_eq (tgt := 348) hx hb dL_law_343 (by decide) (fun _ => ?_) (fun c9 => absurd (by decide) c9)
  refine lv_iload hx hb dL_law_348 (lv_at hl 1 rfl) ?_
  refine lv_if_ne (tgt := 365) hx hb dL_law_350 (by decide) (fun _ => ?_) (fun c9 => absurd c9 (by decide))
  refine lv_goto (tgt := 394) hx hb dL_law_365 (by decide) ?_
  exact law_tail hbA hAf C0 (Nat.le_of_ble_eq_true rfl) (Nat.le_of_ble_eq_true rfl) hS (lv_sub hl [2, 6] rfl)

set_option maxHeartbeats 4000000 in
set_option maxRecDepth 100000 in
theorem law_5P {p : Program} {l : Launch} {e : Env} {s : State} {m : MethodId} {below : List Frame} {meth : Method} {c : Code} {b : Nat} {xs : Nat → Int32} {dC : Nat → ClassId} {dI : Nat → Nat → Nat} {cI cZ cL : ClassId} {A : Nat → Prop} (hst : l.stackTraces = false) (hA : ∀ q : Nat, s.heap.size ≤ q → A q) (hbA : ¬ A b) (hAf : ∀ q, A q → s.heap.size ≤ q) (C0 : lw_At p s m meth c b 4 xs) (hK : va_K (dC, dI) vwCl (t3 cI cZ cL) s) (hE : ex A s) {h0 a1 n0 r0 j0 p0 p1 p2 b1 b2 b3 b4 b5 o0 g0 m1 m2 m3 m4 m5 m6 m7 m8 m9 m10 m11 m12 m13 m14 m15 m16 m17 m18 m19 m20 m21 : Nat} {H : Heap} {locs : List Loc} (hP : va_P (dC, dI) vwCl [(h0, .inr (6, [.ref a1, .int 0, .int (-1), .ref n0, .ref r0, .ref j0, .ref p0])), (p0, .inr (3, [.ref n0, .ref p1, .ref p2, .int 0, .int (-1), .int 0])), (n0, .inr (2, [.ref b1, .ref b2, .ref b3, .ref b4, .ref b5, .int 0])), (o0, .inl (cL, 1, .inr (.inl zL))), (g0, .inr (7, [.int 0, .ref m1, .int 0, .int 0, .int 0, .int 0, .int (-1), .int 0, .int 0, .ref m2, .ref m3, .ref m4, .int 0, .ref m5, .ref m6, .ref m7, .int 0, .ref m8, .ref m9, .ref m10, .int 0, .int 0, .ref m11, .ref m12, .ref m13, .int 0, .int 0, .ref m14, .int 0, .ref m15, .ref m16, .ref m17, .int 0, .int 0, .ref m18, .ref m19, .ref m20, .int 0, .ref m21]))] H) (hD : va_D A [(h0, .inr (6, [.ref a1, .int 0, .int (-1), .ref n0, .ref r0, .ref j0, .ref p0])), (p0, .inr (3, [.ref n0, .ref p1, .ref p2, .int 0, .int (-1), .int 0])), (n0, .inr (2, [.ref b1, .ref b2, .ref b3, .ref b4, .ref b5, .int 0])), (o0, .inl (cL, 1, .inr (.inl zL))), (g0, .inr (7, [.int 0, .ref m1, .int 0, .int 0, .int 0, .int 0, .int (-1), .int 0, .int 0, .ref m2, .ref m3, .ref m4, .int 0, .ref m5, .ref m6, .ref m7, .int 0, .ref m8, .ref m9, .ref m10, .int 0, .int 0, .ref m11, .ref m12, .ref m13, .int 0, .int 0, .ref m14, .int 0, .ref m15, .ref m16, .ref m17, .int 0, .int 0, .ref m18, .ref m19, .ref m20, .int 0, .ref m21]))]) (hS : va_S A s.heap H locs) {ls : Array Slot} (hl : lv_has ls 7 [(0, .ref b), (1, .ref h0), (2, .ref g0), (3, .ref o0), (4, .int 0)]) (hn : ¬ xs 1 < 0) : W p l e room_1 s m #[Value.ref b] below meth c H locs 47 729261 (lw_Z below #[Value.ref b] s) (F0 m 312 ls []) := by
  obtain ⟨hx, hb, hr, hml, hown, hts, hX, hbl, hlocks, hgv⟩ := id C0
  have hg : ∀ w ∈ gw_all, w.before #[Value.ref b] s = true := fun w h => hts w (gw_in w h)
  refine W.widen (k := 47) (n := 729261) (Nat.le_of_ble_eq_true rfl) (Nat.le_of_ble_eq_true rfl) ?_
  refine lv_aload_n hx hb dL_law_312 rfl (lv_at hl 1 rfl) ?_
  refine lv_aload_n hx hb dL_law_313 rfl (lv_at hl 0 rfl) ?_
  refine lv_iload hx hb dL_law_314 (lv_at hl 4 rfl) ?_
  refine lv_iconst (v := 1) hx hb dL_law_316 (by decide) ?_
  refine lv_iadd hx hb dL_law_317 ?_
  refine lv_topi (fun z1 ez1 => ?_)
  obtain rfl : z1 = 1 := ez1.trans (by decide)
  refine va_sld hx hb hX hbl hbA hS (vp_lit (by decide) (by decide)) dL_law_318 ?_
  refine lv_topi (fun z2 ez2 => ?_)
  obtain rfl : z2 = xs 1 := ez2
  refine lv_aload_n hx hb dL_law_319 rfl (lv_at hl 3 rfl) ?_
  have hPc := hP.sub (ws' := [(h0, .inr (6, [.ref a1, .int 0, .int (-1), .ref n0, .ref r0, .ref j0, .ref p0])), (p0, .inr (3, [.ref n0, .ref p1, .ref p2, .int 0, .int (-1), .int 0])), (n0, .inr (2, [.ref b1, .ref b2, .ref b3, .ref b4, .ref b5, .int 0])), (o0, .inl (cL, 1, .inr (.inl zL)))]) [0, 1, 2, 3] rfl
  have hDc := hD.sub (ws' := [(h0, .inr (6, [.ref a1, .int 0, .int (-1), .ref n0, .ref r0, .ref j0, .ref p0])), (p0, .inr (3, [.ref n0, .ref p1, .ref p2, .int 0, .int (-1), .int 0])), (n0, .inr (2, [.ref b1, .ref b2, .ref b3, .ref b4, .ref b5, .int 0])), (o0, .inl (cL, 1, .inr (.inl zL)))]) [0, 1, 2, 3] (by decide) rfl
  have hFc := va_free (wc := [(h0, .inr (6, [.ref a1, .int 0, .int (-1), .ref n0, .ref r0, .ref j0, .ref p0])), (p0, .inr (3, [.ref n0, .ref p1, .ref p2, .int 0, .int (-1), .int 0])), (n0, .inr (2, [.ref b1, .ref b2, .ref b3, .ref b4, .ref b5, .int 0])), (o0, .inl (cL, 1, .inr (.inl zL)))]) hD hS hA [0, 1, 2, 3] rfl
  refine va_calli (vx_runSW (As := [.ref h0, .int (xs 1), .ref o0]) (rest := []) ⟨hx, hb, hml, hown, hg⟩ (c_L_outP l dC dI cI cZ cL h0 p0 n0 o0 (Array.size _) r0 j0 a1 p1 p2 b1 b2 b3 b4 b5 (xs 1) zL hst hn) (vx_cwSW 3 hg (gw_S k_347 k_348 k_335 g_yL_out) rfl rfl rfl (by decide +kernel) ⟨(Nat.le_of_ble_eq_true rfl), (Nat.le_of_ble_eq_true rfl)⟩) ⟨hpx_bl, fun U hU hW => hpx_ok hU hW hPc hK hDc hE hS hFc⟩ rfl rfl hl.1 rfl (lv_room (Nat.le_of_ble_eq_true rfl)) dL_law_320 ⟨(Nat.le_of_ble_eq_true rfl), (Nat.le_of_ble_eq_true rfl)⟩) hS (fun q _ h => hFc q h) hFc (fun r9 u t H locs ht hvm hw hB hz1 hk1 hS => ?_)
  obtain ⟨hP1, hD1⟩ := hB
  rw [ht] at hP1
  obtain ⟨hP, hD⟩ := va_join (wr := [(g0, .inr (7, [.int 0, .ref m1, .int 0, .int 0, .int 0, .int 0, .int (-1), .int 0, .int 0, .ref m2, .ref m3, .ref m4, .int 0, .ref m5, .ref m6, .ref m7, .int 0, .ref m8, .ref m9, .ref m10, .int 0, .int 0, .ref m11, .ref m12, .ref m13, .int 0, .int 0, .ref m14, .int 0, .ref m15, .ref m16, .ref m17, .int 0, .int 0, .ref m18, .ref m19, .ref m20, .int 0, .ref m21]))]) (w1 := [(o0, .inl (cL, 1, .inr (.inl zL)))]) hP hD [0, 1, 2, 3] [4] rfl rfl (by decide) (by decide) hk1 hFc hP1 hD1
  have hP : va_P (dC, dI) vwCl [(g0, .inr (7, [.int 0, .ref m1, .int 0, .int 0, .int 0, .int 0, .int (-1), .int 0, .int 0, .ref m2, .ref m3, .ref m4, .int 0, .ref m5, .ref m6, .ref m7, .int 0, .ref m8, .ref m9, .ref m10, .int 0, .int 0, .ref m11, .ref m12, .ref m13, .int 0, .int 0, .ref m14, .int 0, .ref m15, .ref m16, .ref m17, .int 0, .int 0, .ref m18, .ref m19, .ref m20, .int 0, .ref m21])), (o0, .inl (cL, 1, .inr (.inl zL)))] H := hP
  have hD : va_D A [(g0, .inr (7, [.int 0, .ref m1, .int 0, .int 0, .int 0, .int 0, .int (-1), .int 0, .int 0, .ref m2, .ref m3, .ref m4, .int 0, .ref m5, .ref m6, .ref m7, .int 0, .ref m8, .ref m9, .ref m10, .int 0, .int 0, .ref m11, .ref m12, .ref m13, .int 0, .int 0, .ref m14, .int 0, .ref m15, .ref m16, .ref m17, .int 0, .int 0, .ref m18, .ref m19, .ref m20, .int 0, .ref m21])), (o0, .inl (cL, 1, .inr (.inl zL)))] := hD
  refine W.widen (k := 48) (n := 729267) (Nat.le_of_ble_eq_true rfl) (Nat.le_of_ble_eq_true rfl) ?_
  obtain rfl : r9 = 1 := hw
  refine lv_istore (lv' := [(5, .int 1), (0, .ref b), (1, .ref h0), (2, .ref g0), (3, .ref o0), (4, .int 0)]) hx hb dL_law_323 hl (by decide) rfl (fun ls hl => ?_)
  refine lv_aload_n hx hb dL_law_325 rfl (lv_at hl 3 rfl) ?_
  refine lv_aload_n hx hb dL_law_326 rfl (lv_at hl 1 rfl) ?_
  refine lv_iload hx hb dL_law_327 (lv_at hl 5 rfl) ?_
  refine lv_iconst (v := 1) hx hb dL_law_329 (by decide) ?_
  refine lv_iadd hx hb dL_law_330 ?_
  refine lv_topi (fun z3 ez3 => ?_)
  obtain rfl : z3 = 1 := ez3.trans (by decide)
  refine va_sld hx hb hX hbl hbA hS (vp_lit (by decide) (by decide)) dL_law_331 ?_
  refine lv_topi (fun z4 ez4 => ?_)
  obtain rfl : z4 = xs 1 := ez4
  have hPc := hP.sub (ws' := [(g0, .inr (7, [.int 0, .ref m1, .int 0, .int 0, .int 0, .int 0, .int (-1), .int 0, .int 0, .ref m2, .ref m3, .ref m4, .int 0, .ref m5, .ref m6, .ref m7, .int 0, .ref m8, .ref m9, .ref m10, .int 0, .int 0, .ref m11, .ref m12, .ref m13, .int 0, .int 0, .ref m14, .int 0, .ref m15, .ref m16, .ref m17, .int 0, .int 0, .ref m18, .ref m19, .ref m20, .int 0, .ref m21]))]) [0] rfl
  have hDc := hD.sub (ws' := [(g0, .inr (7, [.int 0, .ref m1, .int 0, .int 0, .int 0, .int 0, .int (-1), .int 0, .int 0, .ref m2, .ref m3, .ref m4, .int 0, .ref m5, .ref m6, .ref m7, .int 0, .ref m8, .ref m9, .ref m10, .int 0, .int 0, .ref m11, .ref m12, .ref m13, .int 0, .int 0, .ref m14, .int 0, .ref m15, .ref m16, .ref m17, .int 0, .int 0, .ref m18, .ref m19, .ref m20, .int 0, .ref m21]))]) [0] (by decide) rfl
  have hFc := va_free (wc := [(g0, .inr (7, [.int 0, .ref m1, .int 0, .int 0, .int 0, .int 0, .int (-1), .int 0, .int 0, .ref m2, .ref m3, .ref m4, .int 0, .ref m5, .ref m6, .ref m7, .int 0, .ref m8, .ref m9, .ref m10, .int 0, .int 0, .ref m11, .ref m12, .ref m13, .int 0, .int 0, .ref m14, .int 0, .ref m15, .ref m16, .ref m17, .int 0, .int 0, .ref m18, .ref m19, .ref m20, .int 0, .ref m21]))]) hD hS hA [0] rfl
  refine va_calli (va_runV (As := [.int (xs 1)]) (rest := []) ⟨hx, hb, hml, hown, hg⟩ (c_X7_outP l dC dI cI cZ cL g0 (Array.size _) m1 m2 m3 m4 m5 m6 m7 m8 m9 m10 m11 m12 m13 m14 m15 m16 m17 m18 m19 m20 m21 (xs 1) hn) (cwV 1 hg (gw_V k_349 k_350 k_351 k_245 g_yX7_out) rfl rfl rfl (by decide +kernel) ⟨(Nat.le_of_ble_eq_true rfl), (Nat.le_of_ble_eq_true rfl)⟩) ⟨hp_bl, va_recv hK hPc (ci := 7) (q0 := 0) rfl rfl, fun U hU hW => hp_ok hU hW hPc hK hDc⟩ rfl rfl hl.1 rfl (lv_room (Nat.le_of_ble_eq_true rfl)) dL_law_332 ⟨(Nat.le_of_ble_eq_true rfl), (Nat.le_of_ble_eq_true rfl)⟩) hS (fun q _ h => hFc q h) hFc (fun r9 u t H locs ht hvm hw hB hz1 hk1 hS => ?_)
  obtain ⟨hP1, hD1⟩ := hB
  rw [ht] at hP1
  obtain ⟨hP, hD⟩ := va_join (wr := [(o0, .inl (cL, 1, .inr (.inl zL)))]) (w1 := [(g0, .inr (7, [.int 1, .ref m1, .int 0, .int 0, .int 0, .int 0, .int (-1), .int 0, .int 0, .ref m2, .ref m3, .ref m4, .int 0, .ref m5, .ref m6, .ref m7, .int 0, .ref m8, .ref m9, .ref m10, .int 0, .int 0, .ref m11, .ref m12, .ref m13, .int 0, .int 0, .ref m14, .int 0, .ref m15, .ref m16, .ref m17, .int 0, .int 0, .ref m18, .ref m19, .ref m20, .int 0, .ref m21]))]) hP hD [0] [1] rfl rfl (by decide) (by decide) hk1 hFc hP1 hD1
  have hP : va_P (dC, dI) vwCl [(o0, .inl (cL, 1, .inr (.inl zL))), (g0, .inr (7, [.int 1, .ref m1, .int 0, .int 0, .int 0, .int 0, .int (-1), .int 0, .int 0, .ref m2, .ref m3, .ref m4, .int 0, .ref m5, .ref m6, .ref m7, .int 0, .ref m8, .ref m9, .ref m10, .int 0, .int 0, .ref m11, .ref m12, .ref m13, .int 0, .int 0, .ref m14, .int 0, .ref m15, .ref m16, .ref m17, .int 0, .int 0, .ref m18, .ref m19, .ref m20, .int 0, .ref m21]))] H := hP
  have hD : va_D A [(o0, .inl (cL, 1, .inr (.inl zL))), (g0, .inr (7, [.int 1, .ref m1, .int 0, .int 0, .int 0, .int 0, .int (-1), .int 0, .int 0, .ref m2, .ref m3, .ref m4, .int 0, .ref m5, .ref m6, .ref m7, .int 0, .ref m8, .ref m9, .ref m10, .int 0, .int 0, .ref m11, .ref m12, .ref m13, .int 0, .int 0, .ref m14, .int 0, .ref m15, .ref m16, .ref m17, .int 0, .int 0, .ref m18, .ref m19, .ref m20, .int 0, .ref m21]))] := hD
  refine W.widen (k := 48) (n := 729267) (Nat.le_of_ble_eq_true rfl) (Nat.le_of_ble_eq_true rfl) ?_
  obtain rfl : r9 = 0 := hw
  refine lv_istore (lv' := [(6, .int 0), (5, .int 1), (0, .ref b), (1, .ref h0), (2, .ref g0), (3, .ref o0), (4, .int 0)]) hx hb dL_law_335 hl (by decide) rfl (fun ls hl => ?_)
  refine lv_aload_n hx hb dL_law_337 rfl (lv_at hl 4 rfl) ?_
  have hPc := hP.sub (ws' := [(g0, .inr (7, [.int 1, .ref m1, .int 0, .int 0, .int 0, .int 0, .int (-1), .int 0, .int 0, .ref m2, .ref m3, .ref m4, .int 0, .ref m5, .ref m6, .ref m7, .int 0, .ref m8, .ref m9, .ref m10, .int 0, .int 0, .ref m11, .ref m12, .ref m13, .int 0, .int 0, .ref m14, .int 0, .ref m15, .ref m16, .ref m17, .int 0, .int 0, .ref m18, .ref m19, .ref m20, .int 0, .ref m21]))]) [1] rfl
  have hDc := hD.sub (ws' := [(g0, .inr (7, [.int 1, .ref m1, .int 0, .int 0, .int 0, .int 0, .int (-1), .int 0, .int 0, .ref m2, .ref m3, .ref m4, .int 0, .ref m5, .ref m6, .ref m7, .int 0, .ref m8, .ref m9, .ref m10, .int 0, .int 0, .ref m11, .ref m12, .ref m13, .int 0, .int 0, .ref m14, .int 0, .ref m15, .ref m16, .ref m17, .int 0, .int 0, .ref m18, .ref m19, .ref m20, .int 0, .ref m21]))]) [1] (by decide) rfl
  have hFc := va_free (wc := [(g0, .inr (7, [.int 1, .ref m1, .int 0, .int 0, .int 0, .int 0, .int (-1), .int 0, .int 0, .ref m2, .ref m3, .ref m4, .int 0, .ref m5, .ref m6, .ref m7, .int 0, .ref m8, .ref m9, .ref m10, .int 0, .int 0, .ref m11, .ref m12, .ref m13, .int 0, .int 0, .ref m14, .int 0, .ref m15, .ref m16, .ref m17, .int 0, .int 0, .ref m18, .ref m19, .ref m20, .int 0, .ref m21]))]) hD hS hA [1] rfl
  refine va_calli (va_runV (As := []) (rest := []) ⟨hx, hb, hml, hown, hg⟩ (c_X7_thrown l dC dI cI cZ cL g0 (Array.size _) 1 [.ref m1, .int 0, .int 0, .int 0, .int 0, .int (-1), .int 0, .int 0, .ref m2, .ref m3, .ref m4, .int 0, .ref m5, .ref m6, .ref m7, .int 0, .ref m8, .ref m9, .ref m10, .int 0, .int 0, .ref m11, .ref m12, .ref m13, .int 0, .int 0, .ref m14, .int 0, .ref m15, .ref m16, .ref m17, .int 0, .int 0, .ref m18, .ref m19, .ref m20, .int 0, .ref m21]) (cwV 0 hg (gw_V k_339 k_340 k_341 k_245 g_yX7_thrown) rfl rfl rfl (by decide +kernel) ⟨(Nat.le_of_ble_eq_true rfl), (Nat.le_of_ble_eq_true rfl)⟩) ⟨hp_bl, va_recv hK hPc (ci := 7) (q0 := 0) rfl rfl, fun U hU hW => hp_ok hU hW hPc hK hDc⟩ rfl rfl hl.1 rfl (lv_room (Nat.le_of_ble_eq_true rfl)) dL_law_338 ⟨(Nat.le_of_ble_eq_true rfl), (Nat.le_of_ble_eq_true rfl)⟩) hS (fun q _ h => hFc q h) hFc (fun r9 u t H locs ht hvm hw hB hz1 hk1 hS => ?_)
  obtain ⟨hP1, hD1⟩ := hB
  rw [ht] at hP1
  obtain ⟨hP, hD⟩ := va_join (wr := [(o0, .inl (cL, 1, .inr (.inl zL)))]) (w1 := []) hP hD [1] [0] rfl rfl (by decide) (by decide) hk1 hFc hP1 hD1
  have hP : va_P (dC, dI) vwCl [(o0, .inl (cL, 1, .inr (.inl zL)))] H := hP
  have hD : va_D A [(o0, .inl (cL, 1, .inr (.inl zL)))] := hD
  refine W.widen (k := 48) (n := 729267) (Nat.le_of_ble_eq_true rfl) (Nat.le_of_ble_eq_true rfl) ?_
  obtain rfl : r9 = 1 := hw
  refine lv_iload hx hb dL_law_341 (lv_at hl 1 rfl) ?_
  refine lv_icmp_eq (tgt := 348) hx hb dL_law_343 (by decide) (fun _ => ?_) (fun c9 => absurd (by decide) c9)
  refine lv_iload hx hb dL_law_348 (lv_at hl 1 rfl) ?_
  refine lv_if_ne (tgt := 365) hx hb dL_law_350 (by decide) (fun _ => ?_) (fun c9 => absurd c9 (by decide))
  refine lv_goto (tgt := 394) hx hb dL_law_365 (by decide) ?_
  exact law_tail hbA hAf C0 (Nat.le_of_ble_eq_true rfl) (Nat.le_of_ble_eq_true rfl) hS (lv_sub hl [2, 6] rfl)

set_option maxHeartbeats 4000000 in
set_option maxRecDepth 100000 in
theorem law_0L {p : Program} {l : Launch} {e : Env} {s : State} {m : MethodId} {below : List Frame} {meth : Method} {c : Code} {b : Nat} {xs : Nat → Int32} {dC : Nat → ClassId} {dI : Nat → Nat → Nat} {cI cZ cL : ClassId} {A : Nat → Prop} (hst : l.stackTraces = false) (hA : ∀ q : Nat, s.heap.size ≤ q → A q) (hbA : ¬ A b) (hAf : ∀ q, A q → s.heap.size ≤ q) (C0 : lw_At p s m meth c b 4 xs) (hK : va_K (dC, dI) vwCl (t3 cI cZ cL) s) (hE : ex A s) {h0 a1 n0 r0 j0 p0 o0 g0 m1 m2 m3 m4 m5 m6 m7 m8 m9 m10 m11 m12 m13 m14 m15 m16 m17 m18 m19 m20 m21 : Nat} {H : Heap} {locs : List Loc} (hP : va_P (dC, dI) vwCl [(h0, .inr (6, [.ref a1, .int 0, .int (-1), .ref n0, .ref r0, .ref j0, .ref p0])), (o0, .inl (cL, 1, .inr (.inl zL))), (g0, .inr (7, [.int 0, .ref m1, .int 0, .int 0, .int 0, .int 0, .int (-1), .int 0, .int 0, .ref m2, .ref m3, .ref m4, .int 0, .ref m5, .ref m6, .ref m7, .int 0, .ref m8, .ref m9, .ref m10, .int 0, .int 0, .ref m11, .ref m12, .ref m13, .int 0, .int 0, .ref m14, .int 0, .ref m15, .ref m16, .ref m17, .int 0, .int 0, .ref m18, .ref m19, .ref m20, .int 0, .ref m21]))] H) (hD : va_D A [(h0, .inr (6, [.ref a1, .int 0, .int (-1), .ref n0, .ref r0, .ref j0, .ref p0])), (o0, .inl (cL, 1, .inr (.inl zL))), (g0, .inr (7, [.int 0, .ref m1, .int 0, .int 0, .int 0, .int 0, .int (-1), .int 0, .int 0, .ref m2, .ref m3, .ref m4, .int 0, .ref m5, .ref m6, .ref m7, .int 0, .ref m8, .ref m9, .ref m10, .int 0, .int 0, .ref m11, .ref m12, .ref m13, .int 0, .int 0, .ref m14, .int 0, .ref m15, .ref m16, .ref m17, .int 0, .int 0, .ref m18, .ref m19, .ref m20, .int 0, .ref m21]))]) (hS : va_S A s.heap H locs) {ls : Array Slot} (hl : lv_has ls 7 [(0, .ref b), (1, .ref h0), (2, .ref g0), (3, .ref o0), (4, .int 0)]) (hn : xs 3 < 1) : W p l e room_1 s m #[Value.ref b] below meth c H locs 47 729261 (lw_Z below #[Value.ref b] s) (F0 m 84 ls []) := by
  obtain ⟨hx, hb, hr, hml, hown, hts, hX, hbl, hlocks, hgv⟩ := id C0
  have hg : ∀ w ∈ gw_all, w.before #[Value.ref b] s = true := fun w h => hts w (gw_in w h)
  refine W.widen (k := 47) (n := 729261) (Nat.le_of_ble_eq_true rfl) (Nat.le_of_ble_eq_true rfl) ?_
  refine lv_aload_n hx hb dL_law_84 rfl (lv_at hl 1 rfl) ?_
  refine lv_aload_n hx hb dL_law_85 rfl (lv_at hl 0 rfl) ?_
  refine lv_iload hx hb dL_law_86 (lv_at hl 4 rfl) ?_
  refine lv_iconst (v := 1) hx hb dL_law_88 (by decide) ?_
  refine lv_iadd hx hb dL_law_89 ?_
  refine lv_topi (fun z1 ez1 => ?_)
  obtain rfl : z1 = 1 := ez1.trans (by decide)
  refine va_sld hx hb hX hbl hbA hS (vp_lit (by decide) (by decide)) dL_law_90 ?_
  refine lv_topi (fun z2 ez2 => ?_)
  obtain rfl : z2 = xs 1 := ez2
  refine lv_i2l hx hb dL_law_91 rfl ?_
  refine lv_topl (fun z3 ez3 => ?_)
  refine lv_bipush (v := 32) hx hb dL_law_92 (by decide) ?_
  refine lv_lshl hx hb dL_law_94 rfl ?_
  refine lv_topl (fun z4 ez4 => ?_)
  refine lv_aload_n hx hb dL_law_95 rfl (lv_at hl 0 rfl) ?_
  refine lv_iload hx hb dL_law_96 (lv_at hl 4 rfl) ?_
  refine lv_iconst (v := 2) hx hb dL_law_98 (by decide) ?_
  refine lv_iadd hx hb dL_law_99 ?_
  refine lv_topi (fun z5 ez5 => ?_)
  obtain rfl : z5 = 2 := ez5.trans (by decide)
  refine va_sld hx hb hX hbl hbA hS (vp_lit (by decide) (by decide)) dL_law_100 ?_
  refine lv_topi (fun z6 ez6 => ?_)
  obtain rfl : z6 = xs 2 := ez6
  refine lv_i2l hx hb dL_law_101 rfl ?_
  refine lv_topl (fun z7 ez7 => ?_)
  refine lv_ldc2 (v := 4294967295) hx hb hown (hg _ k_352) dL_law_102 ?_
  refine lv_land hx hb dL_law_105 ?_
  refine lv_topl (fun z8 ez8 => ?_)
  refine lv_lor hx hb dL_law_106 ?_
  refine lv_topl (fun z9 ez9 => ?_)
  refine lv_aload_n hx hb dL_law_107 rfl (lv_at hl 0 rfl) ?_
  refine lv_iload hx hb dL_law_108 (lv_at hl 4 rfl) ?_
  refine lv_iconst (v := 3) hx hb dL_law_110 (by decide) ?_
  refine lv_iadd hx hb dL_law_111 ?_
  refine lv_topi (fun z10 ez10 => ?_)
  obtain rfl : z10 = 3 := ez10.trans (by decide)
  refine va_sld hx hb hX hbl hbA hS (vp_lit (by decide) (by decide)) dL_law_112 ?_
  refine lv_topi (fun z11 ez11 => ?_)
  obtain rfl : z11 = xs 3 := ez11
  refine lv_aload_n hx hb dL_law_113 rfl (lv_at hl 3 rfl) ?_
  have hPc := hP.sub (ws' := [(h0, .inr (6, [.ref a1, .int 0, .int (-1), .ref n0, .ref r0, .ref j0, .ref p0])), (o0, .inl (cL, 1, .inr (.inl zL)))]) [0, 1] rfl
  have hDc := hD.sub (ws' := [(h0, .inr (6, [.ref a1, .int 0, .int (-1), .ref n0, .ref r0, .ref j0, .ref p0])), (o0, .inl (cL, 1, .inr (.inl zL)))]) [0, 1] (by decide) rfl
  have hFc := va_free (wc := [(h0, .inr (6, [.ref a1, .int 0, .int (-1), .ref n0, .ref r0, .ref j0, .ref p0])), (o0, .inl (cL, 1, .inr (.inl zL)))]) hD hS hA [0, 1] rfl
  refine va_calli (vx_runSW (As := [.ref h0, .long z9, .int (xs 3), .ref o0]) (rest := []) ⟨hx, hb, hml, hown, hg⟩ (c_L_feedL l dC dI cI cZ cL h0 o0 (Array.size _) n0 r0 j0 p0 a1 z9 (xs 3) zL hst hn) (vx_cwSW 4 hg (gw_S k_353 k_354 k_335 g_yL_feed) rfl rfl rfl (by decide +kernel) ⟨(Nat.le_of_ble_eq_true rfl), (Nat.le_of_ble_eq_true rfl)⟩) ⟨hpx_bl, fun U hU hW => hpx_ok hU hW hPc hK hDc hE hS hFc⟩ rfl rfl hl.1 rfl (lv_room (Nat.le_of_ble_eq_true rfl)) dL_law_114 ⟨(Nat.le_of_ble_eq_true rfl), (Nat.le_of_ble_eq_true rfl)⟩) hS (fun q _ h => hFc q h) hFc (fun r9 u t H locs ht hvm hw hB hz1 hk1 hS => ?_)
  obtain ⟨hP1, hD1⟩ := hB
  rw [ht] at hP1
  obtain ⟨hP, hD⟩ := va_join (wr := [(g0, .inr (7, [.int 0, .ref m1, .int 0, .int 0, .int 0, .int 0, .int (-1), .int 0, .int 0, .ref m2, .ref m3, .ref m4, .int 0, .ref m5, .ref m6, .ref m7, .int 0, .ref m8, .ref m9, .ref m10, .int 0, .int 0, .ref m11, .ref m12, .ref m13, .int 0, .int 0, .ref m14, .int 0, .ref m15, .ref m16, .ref m17, .int 0, .int 0, .ref m18, .ref m19, .ref m20, .int 0, .ref m21]))]) (w1 := [(o0, .inl (cL, 1, .inr (.inl zL)))]) hP hD [0, 1] [2] rfl rfl (by decide) (by decide) hk1 hFc hP1 hD1
  have hP : va_P (dC, dI) vwCl [(g0, .inr (7, [.int 0, .ref m1, .int 0, .int 0, .int 0, .int 0, .int (-1), .int 0, .int 0, .ref m2, .ref m3, .ref m4, .int 0, .ref m5, .ref m6, .ref m7, .int 0, .ref m8, .ref m9, .ref m10, .int 0, .int 0, .ref m11, .ref m12, .ref m13, .int 0, .int 0, .ref m14, .int 0, .ref m15, .ref m16, .ref m17, .int 0, .int 0, .ref m18, .ref m19, .ref m20, .int 0, .ref m21])), (o0, .inl (cL, 1, .inr (.inl zL)))] H := hP
  have hD : va_D A [(g0, .inr (7, [.int 0, .ref m1, .int 0, .int 0, .int 0, .int 0, .int (-1), .int 0, .int 0, .ref m2, .ref m3, .ref m4, .int 0, .ref m5, .ref m6, .ref m7, .int 0, .ref m8, .ref m9, .ref m10, .int 0, .int 0, .ref m11, .ref m12, .ref m13, .int 0, .int 0, .ref m14, .int 0, .ref m15, .ref m16, .ref m17, .int 0, .int 0, .ref m18, .ref m19, .ref m20, .int 0, .ref m21])), (o0, .inl (cL, 1, .inr (.inl zL)))] := hD
  refine W.widen (k := 48) (n := 729267) (Nat.le_of_ble_eq_true rfl) (Nat.le_of_ble_eq_true rfl) ?_
  obtain rfl : r9 = 1 := hw
  refine lv_istore (lv' := [(5, .int 1), (0, .ref b), (1, .ref h0), (2, .ref g0), (3, .ref o0), (4, .int 0)]) hx hb dL_law_117 hl (by decide) rfl (fun ls hl => ?_)
  refine lv_aload_n hx hb dL_law_119 rfl (lv_at hl 3 rfl) ?_
  refine lv_aload_n hx hb dL_law_120 rfl (lv_at hl 1 rfl) ?_
  refine lv_iload hx hb dL_law_121 (lv_at hl 5 rfl) ?_
  refine lv_iconst (v := 1) hx hb dL_law_123 (by decide) ?_
  refine lv_iadd hx hb dL_law_124 ?_
  refine lv_topi (fun z12 ez12 => ?_)
  obtain rfl : z12 = 1 := ez12.trans (by decide)
  refine va_sld hx hb hX hbl hbA hS (vp_lit (by decide) (by decide)) dL_law_125 ?_
  refine lv_topi (fun z13 ez13 => ?_)
  obtain rfl : z13 = xs 1 := ez13
  refine lv_i2l hx hb dL_law_126 rfl ?_
  refine lv_topl (fun z14 ez14 => ?_)
  refine lv_bipush (v := 32) hx hb dL_law_127 (by decide) ?_
  refine lv_lshl hx hb dL_law_129 rfl ?_
  refine lv_topl (fun z15 ez15 => ?_)
  refine lv_aload_n hx hb dL_law_130 rfl (lv_at hl 1 rfl) ?_
  refine lv_iload hx hb dL_law_131 (lv_at hl 5 rfl) ?_
  refine lv_iconst (v := 2) hx hb dL_law_133 (by decide) ?_
  refine lv_iadd hx hb dL_law_134 ?_
  refine lv_topi (fun z16 ez16 => ?_)
  obtain rfl : z16 = 2 := ez16.trans (by decide)
  refine va_sld hx hb hX hbl hbA hS (vp_lit (by decide) (by decide)) dL_law_135 ?_
  refine lv_topi (fun z17 ez17 => ?_)
  obtain rfl : z17 = xs 2 := ez17
  refine lv_i2l hx hb dL_law_136 rfl ?_
  refine lv_topl (fun z18 ez18 => ?_)
  refine lv_ldc2 (v := 4294967295) hx hb hown (hg _ k_352) dL_law_137 ?_
  refine lv_land hx hb dL_law_140 ?_
  refine lv_topl (fun z19 ez19 => ?_)
  refine lv_lor hx hb dL_law_141 ?_
  refine lv_topl (fun z20 ez20 => ?_)
  refine lv_aload_n hx hb dL_law_142 rfl (lv_at hl 1 rfl) ?_
  refine lv_iload hx hb dL_law_143 (lv_at hl 5 rfl) ?_
  refine lv_iconst (v := 3) hx hb dL_law_145 (by decide) ?_
  refine lv_iadd hx hb dL_law_146 ?_
  refine lv_topi (fun z21 ez21 => ?_)
  obtain rfl : z21 = 3 := ez21.trans (by decide)
  refine va_sld hx hb hX hbl hbA hS (vp_lit (by decide) (by decide)) dL_law_147 ?_
  refine lv_topi (fun z22 ez22 => ?_)
  obtain rfl : z22 = xs 3 := ez22
  have hPc := hP.sub (ws' := [(g0, .inr (7, [.int 0, .ref m1, .int 0, .int 0, .int 0, .int 0, .int (-1), .int 0, .int 0, .ref m2, .ref m3, .ref m4, .int 0, .ref m5, .ref m6, .ref m7, .int 0, .ref m8, .ref m9, .ref m10, .int 0, .int 0, .ref m11, .ref m12, .ref m13, .int 0, .int 0, .ref m14, .int 0, .ref m15, .ref m16, .ref m17, .int 0, .int 0, .ref m18, .ref m19, .ref m20, .int 0, .ref m21]))]) [0] rfl
  have hDc := hD.sub (ws' := [(g0, .inr (7, [.int 0, .ref m1, .int 0, .int 0, .int 0, .int 0, .int (-1), .int 0, .int 0, .ref m2, .ref m3, .ref m4, .int 0, .ref m5, .ref m6, .ref m7, .int 0, .ref m8, .ref m9, .ref m10, .int 0, .int 0, .ref m11, .ref m12, .ref m13, .int 0, .int 0, .ref m14, .int 0, .ref m15, .ref m16, .ref m17, .int 0, .int 0, .ref m18, .ref m19, .ref m20, .int 0, .ref m21]))]) [0] (by decide) rfl
  have hFc := va_free (wc := [(g0, .inr (7, [.int 0, .ref m1, .int 0, .int 0, .int 0, .int 0, .int (-1), .int 0, .int 0, .ref m2, .ref m3, .ref m4, .int 0, .ref m5, .ref m6, .ref m7, .int 0, .ref m8, .ref m9, .ref m10, .int 0, .int 0, .ref m11, .ref m12, .ref m13, .int 0, .int 0, .ref m14, .int 0, .ref m15, .ref m16, .ref m17, .int 0, .int 0, .ref m18, .ref m19, .ref m20, .int 0, .ref m21]))]) hD hS hA [0] rfl
  refine va_calli (va_runV (As := [.long z20, .int (xs 3)]) (rest := []) ⟨hx, hb, hml, hown, hg⟩ (c_X7_feedL l dC dI cI cZ cL g0 (Array.size _) m1 m2 m3 m4 m5 m6 m7 m8 m9 m10 m11 m12 m13 m14 m15 m16 m17 m18 m19 m20 m21 z20 (xs 3) hn) (cwV 2 hg (gw_V k_355 k_356 k_357 k_245 g_yX7_feed) rfl rfl rfl (by decide +kernel) ⟨(Nat.le_of_ble_eq_true rfl), (Nat.le_of_ble_eq_true rfl)⟩) ⟨hp_bl, va_recv hK hPc (ci := 7) (q0 := 0) rfl rfl, fun U hU hW => hp_ok hU hW hPc hK hDc⟩ rfl rfl hl.1 rfl (lv_room (Nat.le_of_ble_eq_true rfl)) dL_law_148 ⟨(Nat.le_of_ble_eq_true rfl), (Nat.le_of_ble_eq_true rfl)⟩) hS (fun q _ h => hFc q h) hFc (fun r9 u t H locs ht hvm hw hB hz1 hk1 hS => ?_)
  obtain ⟨hP1, hD1⟩ := hB
  rw [ht] at hP1
  obtain ⟨hP, hD⟩ := va_join (wr := [(o0, .inl (cL, 1, .inr (.inl zL)))]) (w1 := [(g0, .inr (7, [.int 1, .ref m1, .int 0, .int 0, .int 0, .int 0, .int (-1), .int 0, .int 0, .ref m2, .ref m3, .ref m4, .int 0, .ref m5, .ref m6, .ref m7, .int 0, .ref m8, .ref m9, .ref m10, .int 0, .int 0, .ref m11, .ref m12, .ref m13, .int 0, .int 0, .ref m14, .int 0, .ref m15, .ref m16, .ref m17, .int 0, .int 0, .ref m18, .ref m19, .ref m20, .int 0, .ref m21]))]) hP hD [0] [1] rfl rfl (by decide) (by decide) hk1 hFc hP1 hD1
  have hP : va_P (dC, dI) vwCl [(o0, .inl (cL, 1, .inr (.inl zL))), (g0, .inr (7, [.int 1, .ref m1, .int 0, .int 0, .int 0, .int 0, .int (-1), .int 0, .int 0, .ref m2, .ref m3, .ref m4, .int 0, .ref m5, .ref m6, .ref m7, .int 0, .ref m8, .ref m9, .ref m10, .int 0, .int 0, .ref m11, .ref m12, .ref m13, .int 0, .int 0, .ref m14, .int 0, .ref m15, .ref m16, .ref m17, .int 0, .int 0, .ref m18, .ref m19, .ref m20, .int 0, .ref m21]))] H := hP
  have hD : va_D A [(o0, .inl (cL, 1, .inr (.inl zL))), (g0, .inr (7, [.int 1, .ref m1, .int 0, .int 0, .int 0, .int 0, .int (-1), .int 0, .int 0, .ref m2, .ref m3, .ref m4, .int 0, .ref m5, .ref m6, .ref m7, .int 0, .ref m8, .ref m9, .ref m10, .int 0, .int 0, .ref m11, .ref m12, .ref m13, .int 0, .int 0, .ref m14, .int 0, .ref m15, .ref m16, .ref m17, .int 0, .int 0, .ref m18, .ref m19, .ref m20, .int 0, .ref m21]))] := hD
  refine W.widen (k := 48) (n := 729267) (Nat.le_of_ble_eq_true rfl) (Nat.le_of_ble_eq_true rfl) ?_
  obtain rfl : r9 = 0 := hw
  refine lv_istore (lv' := [(6, .int 0), (5, .int 1), (0, .ref b), (1, .ref h0), (2, .ref g0), (3, .ref o0), (4, .int 0)]) hx hb dL_law_151 hl (by decide) rfl (fun ls hl => ?_)
  refine lv_aload_n hx hb dL_law_153 rfl (lv_at hl 4 rfl) ?_
  have hPc := hP.sub (ws' := [(g0, .inr (7, [.int 1, .ref m1, .int 0, .int 0, .int 0, .int 0, .int (-1), .int 0, .int 0, .ref m2, .ref m3, .ref m4, .int 0, .ref m5, .ref m6, .ref m7, .int 0, .ref m8, .ref m9, .ref m10, .int 0, .int 0, .ref m11, .ref m12, .ref m13, .int 0, .int 0, .ref m14, .int 0, .ref m15, .ref m16, .ref m17, .int 0, .int 0, .ref m18, .ref m19, .ref m20, .int 0, .ref m21]))]) [1] rfl
  have hDc := hD.sub (ws' := [(g0, .inr (7, [.int 1, .ref m1, .int 0, .int 0, .int 0, .int 0, .int (-1), .int 0, .int 0, .ref m2, .ref m3, .ref m4, .int 0, .ref m5, .ref m6, .ref m7, .int 0, .ref m8, .ref m9, .ref m10, .int 0, .int 0, .ref m11, .ref m12, .ref m13, .int 0, .int 0, .ref m14, .int 0, .ref m15, .ref m16, .ref m17, .int 0, .int 0, .ref m18, .ref m19, .ref m20, .int 0, .ref m21]))]) [1] (by decide) rfl
  have hFc := va_free (wc := [(g0, .inr (7, [.int 1, .ref m1, .int 0, .int 0, .int 0, .int 0, .int (-1), .int 0, .int 0, .ref m2, .ref m3, .ref m4, .int 0, .ref m5, .ref m6, .ref m7, .int 0, .ref m8, .ref m9, .ref m10, .int 0, .int 0, .ref m11, .ref m12, .ref m13, .int 0, .int 0, .ref m14, .int 0, .ref m15, .ref m16, .ref m17, .int 0, .int 0, .ref m18, .ref m19, .ref m20, .int 0, .ref m21]))]) hD hS hA [1] rfl
  refine va_calli (va_runV (As := []) (rest := []) ⟨hx, hb, hml, hown, hg⟩ (c_X7_thrown l dC dI cI cZ cL g0 (Array.size _) 1 [.ref m1, .int 0, .int 0, .int 0, .int 0, .int (-1), .int 0, .int 0, .ref m2, .ref m3, .ref m4, .int 0, .ref m5, .ref m6, .ref m7, .int 0, .ref m8, .ref m9, .ref m10, .int 0, .int 0, .ref m11, .ref m12, .ref m13, .int 0, .int 0, .ref m14, .int 0, .ref m15, .ref m16, .ref m17, .int 0, .int 0, .ref m18, .ref m19, .ref m20, .int 0, .ref m21]) (cwV 0 hg (gw_V k_339 k_340 k_341 k_245 g_yX7_thrown) rfl rfl rfl (by decide +kernel) ⟨(Nat.le_of_ble_eq_true rfl), (Nat.le_of_ble_eq_true rfl)⟩) ⟨hp_bl, va_recv hK hPc (ci := 7) (q0 := 0) rfl rfl, fun U hU hW => hp_ok hU hW hPc hK hDc⟩ rfl rfl hl.1 rfl (lv_room (Nat.le_of_ble_eq_true rfl)) dL_law_154 ⟨(Nat.le_of_ble_eq_true rfl), (Nat.le_of_ble_eq_true rfl)⟩) hS (fun q _ h => hFc q h) hFc (fun r9 u t H locs ht hvm hw hB hz1 hk1 hS => ?_)
  obtain ⟨hP1, hD1⟩ := hB
  rw [ht] at hP1
  obtain ⟨hP, hD⟩ := va_join (wr := [(o0, .inl (cL, 1, .inr (.inl zL)))]) (w1 := []) hP hD [1] [0] rfl rfl (by decide) (by decide) hk1 hFc hP1 hD1
  have hP : va_P (dC, dI) vwCl [(o0, .inl (cL, 1, .inr (.inl zL)))] H := hP
  have hD : va_D A [(o0, .inl (cL, 1, .inr (.inl zL)))] := hD
  refine W.widen (k := 48) (n := 729267) (Nat.le_of_ble_eq_true rfl) (Nat.le_of_ble_eq_true rfl) ?_
  obtain rfl : r9 = 1 := hw
  refine lv_iload hx hb dL_law_157 (lv_at hl 1 rfl) ?_
  refine lv_icmp_eq (tgt := 164) hx hb dL_law_159 (by decide) (fun _ => ?_) (fun c9 => absurd (by decide) c9)
  refine lv_iload hx hb dL_law_164 (lv_at hl 1 rfl) ?_
  refine lv_if_ne (tgt := 181) hx hb dL_law_166 (by decide) (fun _ => ?_) (fun c9 => absurd c9 (by decide))
  refine lv_goto (tgt := 394) hx hb dL_law_181 (by decide) ?_
  exact law_tail hbA hAf C0 (Nat.le_of_ble_eq_true rfl) (Nat.le_of_ble_eq_true rfl) hS (lv_sub hl [2, 6] rfl)

set_option maxHeartbeats 4000000 in
set_option maxRecDepth 100000 in
theorem law_0H {p : Program} {l : Launch} {e : Env} {s : State} {m : MethodId} {below : List Frame} {meth : Method} {c : Code} {b : Nat} {xs : Nat → Int32} {dC : Nat → ClassId} {dI : Nat → Nat → Nat} {cI cZ cL : ClassId} {A : Nat → Prop} (hst : l.stackTraces = false) (hA : ∀ q : Nat, s.heap.size ≤ q → A q) (hbA : ¬ A b) (hAf : ∀ q, A q → s.heap.size ≤ q) (C0 : lw_At p s m meth c b 4 xs) (hK : va_K (dC, dI) vwCl (t3 cI cZ cL) s) (hE : ex A s) {h0 a1 n0 r0 j0 p0 o0 g0 m1 m2 m3 m4 m5 m6 m7 m8 m9 m10 m11 m12 m13 m14 m15 m16 m17 m18 m19 m20 m21 : Nat} {H : Heap} {locs : List Loc} (hP : va_P (dC, dI) vwCl [(h0, .inr (6, [.ref a1, .int 0, .int (-1), .ref n0, .ref r0, .ref j0, .ref p0])), (o0, .inl (cL, 1, .inr (.inl zL))), (g0, .inr (7, [.int 0, .ref m1, .int 0, .int 0, .int 0, .int 0, .int (-1), .int 0, .int 0, .ref m2, .ref m3, .ref m4, .int 0, .ref m5, .ref m6, .ref m7, .int 0, .ref m8, .ref m9, .ref m10, .int 0, .int 0, .ref m11, .ref m12, .ref m13, .int 0, .int 0, .ref m14, .int 0, .ref m15, .ref m16, .ref m17, .int 0, .int 0, .ref m18, .ref m19, .ref m20, .int 0, .ref m21]))] H) (hD : va_D A [(h0, .inr (6, [.ref a1, .int 0, .int (-1), .ref n0, .ref r0, .ref j0, .ref p0])), (o0, .inl (cL, 1, .inr (.inl zL))), (g0, .inr (7, [.int 0, .ref m1, .int 0, .int 0, .int 0, .int 0, .int (-1), .int 0, .int 0, .ref m2, .ref m3, .ref m4, .int 0, .ref m5, .ref m6, .ref m7, .int 0, .ref m8, .ref m9, .ref m10, .int 0, .int 0, .ref m11, .ref m12, .ref m13, .int 0, .int 0, .ref m14, .int 0, .ref m15, .ref m16, .ref m17, .int 0, .int 0, .ref m18, .ref m19, .ref m20, .int 0, .ref m21]))]) (hS : va_S A s.heap H locs) {ls : Array Slot} (hl : lv_has ls 7 [(0, .ref b), (1, .ref h0), (2, .ref g0), (3, .ref o0), (4, .int 0)]) (hn : ¬ xs 3 < 1) (hm : ¬ xs 3 ≤ 8) : W p l e room_1 s m #[Value.ref b] below meth c H locs 47 729261 (lw_Z below #[Value.ref b] s) (F0 m 84 ls []) := by
  obtain ⟨hx, hb, hr, hml, hown, hts, hX, hbl, hlocks, hgv⟩ := id C0
  have hg : ∀ w ∈ gw_all, w.before #[Value.ref b] s = true := fun w h => hts w (gw_in w h)
  refine W.widen (k := 47) (n := 729261) (Nat.le_of_ble_eq_true rfl) (Nat.le_of_ble_eq_true rfl) ?_
  refine lv_aload_n hx hb dL_law_84 rfl (lv_at hl 1 rfl) ?_
  refine lv_aload_n hx hb dL_law_85 rfl (lv_at hl 0 rfl) ?_
  refine lv_iload hx hb dL_law_86 (lv_at hl 4 rfl) ?_
  refine lv_iconst (v := 1) hx hb dL_law_88 (by decide) ?_
  refine lv_iadd hx hb dL_law_89 ?_
  refine lv_topi (fun z1 ez1 => ?_)
  obtain rfl : z1 = 1 := ez1.trans (by decide)
  refine va_sld hx hb hX hbl hbA hS (vp_lit (by decide) (by decide)) dL_law_90 ?_
  refine lv_topi (fun z2 ez2 => ?_)
  obtain rfl : z2 = xs 1 := ez2
  refine lv_i2l hx hb dL_law_91 rfl ?_
  refine lv_topl (fun z3 ez3 => ?_)
  refine lv_bipush (v := 32) hx hb dL_law_92 (by decide) ?_
  refine lv_lshl hx hb dL_law_94 rfl ?_
  refine lv_topl (fun z4 ez4 => ?_)
  refine lv_aload_n hx hb dL_law_95 rfl (lv_at hl 0 rfl) ?_
  refine lv_iload hx hb dL_law_96 (lv_at hl 4 rfl) ?_
  refine lv_iconst (v := 2) hx hb dL_law_98 (by decide) ?_
  refine lv_iadd hx hb dL_law_99 ?_
  refine lv_topi (fun z5 ez5 => ?_)
  obtain rfl : z5 = 2 := ez5.trans (by decide)
  refine va_sld hx hb hX hbl hbA hS (vp_lit (by decide) (by decide)) dL_law_100 ?_
  refine lv_topi (fun z6 ez6 => ?_)
  obtain rfl : z6 = xs 2 := ez6
  refine lv_i2l hx hb dL_law_101 rfl ?_
  refine lv_topl (fun z7 ez7 => ?_)
  refine lv_ldc2 (v := 4294967295) hx hb hown (hg _ k_352) dL_law_102 ?_
  refine lv_land hx hb dL_law_105 ?_
  refine lv_topl (fun z8 ez8 => ?_)
  refine lv_lor hx hb dL_law_106 ?_
  refine lv_topl (fun z9 ez9 => ?_)
  refine lv_aload_n hx hb dL_law_107 rfl (lv_at hl 0 rfl) ?_
  refine lv_iload hx hb dL_law_108 (lv_at hl 4 rfl) ?_
  refine lv_iconst (v := 3) hx hb dL_law_110 (by decide) ?_
  refine lv_iadd hx hb dL_law_111 ?_
  refine lv_topi (fun z10 ez10 => ?_)
  obtain rfl : z10 = 3 := ez10.trans (by decide)
  refine va_sld hx hb hX hbl hbA hS (vp_lit (by decide) (by decide)) dL_law_112 ?_
  refine lv_topi (fun z11 ez11 => ?_)
  obtain rfl : z11 = xs 3 := ez11
  refine lv_aload_n hx hb dL_law_113 rfl (lv_at hl 3 rfl) ?_
  have hPc := hP.sub (ws' := [(h0, .inr (6, [.ref a1, .int 0, .int (-1), .ref n0, .ref r0, .ref j0, .ref p0])), (o0, .inl (cL, 1, .inr (.inl zL)))]) [0, 1] rfl
  have hDc := hD.sub (ws' := [(h0, .inr (6, [.ref a1, .int 0, .int (-1), .ref n0, .ref r0, .ref j0, .ref p0])), (o0, .inl (cL, 1, .inr (.inl zL)))]) [0, 1] (by decide) rfl
  have hFc := va_free (wc := [(h0, .inr (6, [.ref a1, .int 0, .int (-1), .ref n0, .ref r0, .ref j0, .ref p0])), (o0, .inl (cL, 1, .inr (.inl zL)))]) hD hS hA [0, 1] rfl
  refine va_calli (vx_runSW (As := [.ref h0, .long z9, .int (xs 3), .ref o0]) (rest := []) ⟨hx, hb, hml, hown, hg⟩ (c_L_feedH l dC dI cI cZ cL h0 o0 (Array.size _) n0 r0 j0 p0 a1 z9 (xs 3) zL hst hn hm) (vx_cwSW 4 hg (gw_S k_353 k_354 k_335 g_yL_feed) rfl rfl rfl (by decide +kernel) ⟨(Nat.le_of_ble_eq_true rfl), (Nat.le_of_ble_eq_true rfl)⟩) ⟨hpx_bl, fun U hU hW => hpx_ok hU hW hPc hK hDc hE hS hFc⟩ rfl rfl hl.1 rfl (lv_room (Nat.le_of_ble_eq_true rfl)) dL_law_114 ⟨(Nat.le_of_ble_eq_true rfl), (Nat.le_of_ble_eq_true rfl)⟩) hS (fun q _ h => hFc q h) hFc (fun r9 u t H locs ht hvm hw hB hz1 hk1 hS => ?_)
  obtain ⟨hP1, hD1⟩ := hB
  rw [ht] at hP1
  obtain ⟨hP, hD⟩ := va_join (wr := [(g0, .inr (7, [.int 0, .ref m1, .int 0, .int 0, .int 0, .int 0, .int (-1), .int 0, .int 0, .ref m2, .ref m3, .ref m4, .int 0, .ref m5, .ref m6, .ref m7, .int 0, .ref m8, .ref m9, .ref m10, .int 0, .int 0, .ref m11, .ref m12, .ref m13, .int 0, .int 0, .ref m14, .int 0, .ref m15, .ref m16, .ref m17, .int 0, .int 0, .ref m18, .ref m19, .ref m20, .int 0, .ref m21]))]) (w1 := [(o0, .inl (cL, 1, .inr (.inl zL)))]) hP hD [0, 1] [2] rfl rfl (by decide) (by decide) hk1 hFc hP1 hD1
  have hP : va_P (dC, dI) vwCl [(g0, .inr (7, [.int 0, .ref m1, .int 0, .int 0, .int 0, .int 0, .int (-1), .int 0, .int 0, .ref m2, .ref m3, .ref m4, .int 0, .ref m5, .ref m6, .ref m7, .int 0, .ref m8, .ref m9, .ref m10, .int 0, .int 0, .ref m11, .ref m12, .ref m13, .int 0, .int 0, .ref m14, .int 0, .ref m15, .ref m16, .ref m17, .int 0, .int 0, .ref m18, .ref m19, .ref m20, .int 0, .ref m21])), (o0, .inl (cL, 1, .inr (.inl zL)))] H := hP
  have hD : va_D A [(g0, .inr (7, [.int 0, .ref m1, .int 0, .int 0, .int 0, .int 0, .int (-1), .int 0, .int 0, .ref m2, .ref m3, .ref m4, .int 0, .ref m5, .ref m6, .ref m7, .int 0, .ref m8, .ref m9, .ref m10, .int 0, .int 0, .ref m11, .ref m12, .ref m13, .int 0, .int 0, .ref m14, .int 0, .ref m15, .ref m16, .ref m17, .int 0, .int 0, .ref m18, .ref m19, .ref m20, .int 0, .ref m21])), (o0, .inl (cL, 1, .inr (.inl zL)))] := hD
  refine W.widen (k := 48) (n := 729267) (Nat.le_of_ble_eq_true rfl) (Nat.le_of_ble_eq_true rfl) ?_
  obtain rfl : r9 = 1 := hw
  refine lv_istore (lv' := [(5, .int 1), (0, .ref b), (1, .ref h0), (2, .ref g0), (3, .ref o0), (4, .int 0)]) hx hb dL_law_117 hl (by decide) rfl (fun ls hl => ?_)
  refine lv_aload_n hx hb dL_law_119 rfl (lv_at hl 3 rfl) ?_
  refine lv_aload_n hx hb dL_law_120 rfl (lv_at hl 1 rfl) ?_
  refine lv_iload hx hb dL_law_121 (lv_at hl 5 rfl) ?_
  refine lv_iconst (v := 1) hx hb dL_law_123 (by decide) ?_
  refine lv_iadd hx hb dL_law_124 ?_
  refine lv_topi (fun z12 ez12 => ?_)
  obtain rfl : z12 = 1 := ez12.trans (by decide)
  refine va_sld hx hb hX hbl hbA hS (vp_lit (by decide) (by decide)) dL_law_125 ?_
  refine lv_topi (fun z13 ez13 => ?_)
  obtain rfl : z13 = xs 1 := ez13
  refine lv_i2l hx hb dL_law_126 rfl ?_
  refine lv_topl (fun z14 ez14 => ?_)
  refine lv_bipush (v := 32) hx hb dL_law_127 (by decide) ?_
  refine lv_lshl hx hb dL_law_129 rfl ?_
  refine lv_topl (fun z15 ez15 => ?_)
  refine lv_aload_n hx hb dL_law_130 rfl (lv_at hl 1 rfl) ?_
  refine lv_iload hx hb dL_law_131 (lv_at hl 5 rfl) ?_
  refine lv_iconst (v := 2) hx hb dL_law_133 (by decide) ?_
  refine lv_iadd hx hb dL_law_134 ?_
  refine lv_topi (fun z16 ez16 => ?_)
  obtain rfl : z16 = 2 := ez16.trans (by decide)
  refine va_sld hx hb hX hbl hbA hS (vp_lit (by decide) (by decide)) dL_law_135 ?_
  refine lv_topi (fun z17 ez17 => ?_)
  obtain rfl : z17 = xs 2 := ez17
  refine lv_i2l hx hb dL_law_136 rfl ?_
  refine lv_topl (fun z18 ez18 => ?_)
  refine lv_ldc2 (v := 4294967295) hx hb hown (hg _ k_352) dL_law_137 ?_
  refine lv_land hx hb dL_law_140 ?_
  refine lv_topl (fun z19 ez19 => ?_)
  refine lv_lor hx hb dL_law_141 ?_
  refine lv_topl (fun z20 ez20 => ?_)
  refine lv_aload_n hx hb dL_law_142 rfl (lv_at hl 1 rfl) ?_
  refine lv_iload hx hb dL_law_143 (lv_at hl 5 rfl) ?_
  refine lv_iconst (v := 3) hx hb dL_law_145 (by decide) ?_
  refine lv_iadd hx hb dL_law_146 ?_
  refine lv_topi (fun z21 ez21 => ?_)
  obtain rfl : z21 = 3 := ez21.trans (by decide)
  refine va_sld hx hb hX hbl hbA hS (vp_lit (by decide) (by decide)) dL_law_147 ?_
  refine lv_topi (fun z22 ez22 => ?_)
  obtain rfl : z22 = xs 3 := ez22
  have hPc := hP.sub (ws' := [(g0, .inr (7, [.int 0, .ref m1, .int 0, .int 0, .int 0, .int 0, .int (-1), .int 0, .int 0, .ref m2, .ref m3, .ref m4, .int 0, .ref m5, .ref m6, .ref m7, .int 0, .ref m8, .ref m9, .ref m10, .int 0, .int 0, .ref m11, .ref m12, .ref m13, .int 0, .int 0, .ref m14, .int 0, .ref m15, .ref m16, .ref m17, .int 0, .int 0, .ref m18, .ref m19, .ref m20, .int 0, .ref m21]))]) [0] rfl
  have hDc := hD.sub (ws' := [(g0, .inr (7, [.int 0, .ref m1, .int 0, .int 0, .int 0, .int 0, .int (-1), .int 0, .int 0, .ref m2, .ref m3, .ref m4, .int 0, .ref m5, .ref m6, .ref m7, .int 0, .ref m8, .ref m9, .ref m10, .int 0, .int 0, .ref m11, .ref m12, .ref m13, .int 0, .int 0, .ref m14, .int 0, .ref m15, .ref m16, .ref m17, .int 0, .int 0, .ref m18, .ref m19, .ref m20, .int 0, .ref m21]))]) [0] (by decide) rfl
  have hFc := va_free (wc := [(g0, .inr (7, [.int 0, .ref m1, .int 0, .int 0, .int 0, .int 0, .int (-1), .int 0, .int 0, .ref m2, .ref m3, .ref m4, .int 0, .ref m5, .ref m6, .ref m7, .int 0, .ref m8, .ref m9, .ref m10, .int 0, .int 0, .ref m11, .ref m12, .ref m13, .int 0, .int 0, .ref m14, .int 0, .ref m15, .ref m16, .ref m17, .int 0, .int 0, .ref m18, .ref m19, .ref m20, .int 0, .ref m21]))]) hD hS hA [0] rfl
  refine va_calli (va_runV (As := [.long z20, .int (xs 3)]) (rest := []) ⟨hx, hb, hml, hown, hg⟩ (c_X7_feedH l dC dI cI cZ cL g0 (Array.size _) m1 m2 m3 m4 m5 m6 m7 m8 m9 m10 m11 m12 m13 m14 m15 m16 m17 m18 m19 m20 m21 z20 (xs 3) hn hm) (cwV 2 hg (gw_V k_355 k_356 k_357 k_245 g_yX7_feed) rfl rfl rfl (by decide +kernel) ⟨(Nat.le_of_ble_eq_true rfl), (Nat.le_of_ble_eq_true rfl)⟩) ⟨hp_bl, va_recv hK hPc (ci := 7) (q0 := 0) rfl rfl, fun U hU hW => hp_ok hU hW hPc hK hDc⟩ rfl rfl hl.1 rfl (lv_room (Nat.le_of_ble_eq_true rfl)) dL_law_148 ⟨(Nat.le_of_ble_eq_true rfl), (Nat.le_of_ble_eq_true rfl)⟩) hS (fun q _ h => hFc q h) hFc (fun r9 u t H locs ht hvm hw hB hz1 hk1 hS => ?_)
  obtain ⟨hP1, hD1⟩ := hB
  rw [ht] at hP1
  obtain ⟨hP, hD⟩ := va_join (wr := [(o0, .inl (cL, 1, .inr (.inl zL)))]) (w1 := [(g0, .inr (7, [.int 1, .ref m1, .int 0, .int 0, .int 0, .int 0, .int (-1), .int 0, .int 0, .ref m2, .ref m3, .ref m4, .int 0, .ref m5, .ref m6, .ref m7, .int 0, .ref m8, .ref m9, .ref m10, .int 0, .int 0, .ref m11, .ref m12, .ref m13, .int 0, .int 0, .ref m14, .int 0, .ref m15, .ref m16, .ref m17, .int 0, .int 0, .ref m18, .ref m19, .ref m20, .int 0, .ref m21]))]) hP hD [0] [1] rfl rfl (by decide) (by decide) hk1 hFc hP1 hD1
  have hP : va_P (dC, dI) vwCl [(o0, .inl (cL, 1, .inr (.inl zL))), (g0, .inr (7, [.int 1, .ref m1, .int 0, .int 0, .int 0, .int 0, .int (-1), .int 0, .int 0, .ref m2, .ref m3, .ref m4, .int 0, .ref m5, .ref m6, .ref m7, .int 0, .ref m8, .ref m9, .ref m10, .int 0, .int 0, .ref m11, .ref m12, .ref m13, .int 0, .int 0, .ref m14, .int 0, .ref m15, .ref m16, .ref m17, .int 0, .int 0, .ref m18, .ref m19, .ref m20, .int 0, .ref m21]))] H := hP
  have hD : va_D A [(o0, .inl (cL, 1, .inr (.inl zL))), (g0, .inr (7, [.int 1, .ref m1, .int 0, .int 0, .int 0, .int 0, .int (-1), .int 0, .int 0, .ref m2, .ref m3, .ref m4, .int 0, .ref m5, .ref m6, .ref m7, .int 0, .ref m8, .ref m9, .ref m10, .int 0, .int 0, .ref m11, .ref m12, .ref m13, .int 0, .int 0, .ref m14, .int 0, .ref m15, .ref m16, .ref m17, .int 0, .int 0, .ref m18, .ref m19, .ref m20, .int 0, .ref m21]))] := hD
  refine W.widen (k := 48) (n := 729267) (Nat.le_of_ble_eq_true rfl) (Nat.le_of_ble_eq_true rfl) ?_
  obtain rfl : r9 = 0 := hw
  refine lv_istore (lv' := [(6, .int 0), (5, .int 1), (0, .ref b), (1, .ref h0), (2, .ref g0), (3, .ref o0), (4, .int 0)]) hx hb dL_law_151 hl (by decide) rfl (fun ls hl => ?_)
  refine lv_aload_n hx hb dL_law_153 rfl (lv_at hl 4 rfl) ?_
  have hPc := hP.sub (ws' := [(g0, .inr (7, [.int 1, .ref m1, .int 0, .int 0, .int 0, .int 0, .int (-1), .int 0, .int 0, .ref m2, .ref m3, .ref m4, .int 0, .ref m5, .ref m6, .ref m7, .int 0, .ref m8, .ref m9, .ref m10, .int 0, .int 0, .ref m11, .ref m12, .ref m13, .int 0, .int 0, .ref m14, .int 0, .ref m15, .ref m16, .ref m17, .int 0, .int 0, .ref m18, .ref m19, .ref m20, .int 0, .ref m21]))]) [1] rfl
  have hDc := hD.sub (ws' := [(g0, .inr (7, [.int 1, .ref m1, .int 0, .int 0, .int 0, .int 0, .int (-1), .int 0, .int 0, .ref m2, .ref m3, .ref m4, .int 0, .ref m5, .ref m6, .ref m7, .int 0, .ref m8, .ref m9, .ref m10, .int 0, .int 0, .ref m11, .ref m12, .ref m13, .int 0, .int 0, .ref m14, .int 0, .ref m15, .ref m16, .ref m17, .int 0, .int 0, .ref m18, .ref m19, .ref m20, .int 0, .ref m21]))]) [1] (by decide) rfl
  have hFc := va_free (wc := [(g0, .inr (7, [.int 1, .ref m1, .int 0, .int 0, .int 0, .int 0, .int (-1), .int 0, .int 0, .ref m2, .ref m3, .ref m4, .int 0, .ref m5, .ref m6, .ref m7, .int 0, .ref m8, .ref m9, .ref m10, .int 0, .int 0, .ref m11, .ref m12, .ref m13, .int 0, .int 0, .ref m14, .int 0, .ref m15, .ref m16, .ref m17, .int 0, .int 0, .ref m18, .ref m19, .ref m20, .int 0, .ref m21]))]) hD hS hA [1] rfl
  refine va_calli (va_runV (As := []) (rest := []) ⟨hx, hb, hml, hown, hg⟩ (c_X7_thrown l dC dI cI cZ cL g0 (Array.size _) 1 [.ref m1, .int 0, .int 0, .int 0, .int 0, .int (-1), .int 0, .int 0, .ref m2, .ref m3, .ref m4, .int 0, .ref m5, .ref m6, .ref m7, .int 0, .ref m8, .ref m9, .ref m10, .int 0, .int 0, .ref m11, .ref m12, .ref m13, .int 0, .int 0, .ref m14, .int 0, .ref m15, .ref m16, .ref m17, .int 0, .int 0, .ref m18, .ref m19, .ref m20, .int 0, .ref m21]) (cwV 0 hg (gw_V k_339 k_340 k_341 k_245 g_yX7_thrown) rfl rfl rfl (by decide +kernel) ⟨(Nat.le_of_ble_eq_true rfl), (Nat.le_of_ble_eq_true rfl)⟩) ⟨hp_bl, va_recv hK hPc (ci := 7) (q0 := 0) rfl rfl, fun U hU hW => hp_ok hU hW hPc hK hDc⟩ rfl rfl hl.1 rfl (lv_room (Nat.le_of_ble_eq_true rfl)) dL_law_154 ⟨(Nat.le_of_ble_eq_true rfl), (Nat.le_of_ble_eq_true rfl)⟩) hS (fun q _ h => hFc q h) hFc (fun r9 u t H locs ht hvm hw hB hz1 hk1 hS => ?_)
  obtain ⟨hP1, hD1⟩ := hB
  rw [ht] at hP1
  obtain ⟨hP, hD⟩ := va_join (wr := [(o0, .inl (cL, 1, .inr (.inl zL)))]) (w1 := []) hP hD [1] [0] rfl rfl (by decide) (by decide) hk1 hFc hP1 hD1
  have hP : va_P (dC, dI) vwCl [(o0, .inl (cL, 1, .inr (.inl zL)))] H := hP
  have hD : va_D A [(o0, .inl (cL, 1, .inr (.inl zL)))] := hD
  refine W.widen (k := 48) (n := 729267) (Nat.le_of_ble_eq_true rfl) (Nat.le_of_ble_eq_true rfl) ?_
  obtain rfl : r9 = 1 := hw
  refine lv_iload hx hb dL_law_157 (lv_at hl 1 rfl) ?_
  refine lv_icmp_eq (tgt := 164) hx hb dL_law_159 (by decide) (fun _ => ?_) (fun c9 => absurd (by decide) c9)
  refine lv_iload hx hb dL_law_164 (lv_at hl 1 rfl) ?_
  refine lv_if_ne (tgt := 181) hx hb dL_law_166 (by decide) (fun _ => ?_) (fun c9 => absurd c9 (by decide))
  refine lv_goto (tgt := 394) hx hb dL_law_181 (by decide) ?_
  exact law_tail hbA hAf C0 (Nat.le_of_ble_eq_true rfl) (Nat.le_of_ble_eq_true rfl) hS (lv_sub hl [2, 6] rfl)

theorem lg_same (x : Int64) : lg_cmp x x = 0 := by simp [lg_cmp]

set_option maxHeartbeats 4000000 in
set_option maxRecDepth 100000 in
theorem law_0G {p : Program} {l : Launch} {e : Env} {s : State} {m : MethodId} {below : List Frame} {meth : Method} {c : Code} {b : Nat} {xs : Nat → Int32} {dC : Nat → ClassId} {dI : Nat → Nat → Nat} {cI cZ cL : ClassId} {A : Nat → Prop} (hst : l.stackTraces = false) (hA : ∀ q : Nat, s.heap.size ≤ q → A q) (hbA : ¬ A b) (hAf : ∀ q, A q → s.heap.size ≤ q) (C0 : lw_At p s m meth c b 4 xs) (hK : va_K (dC, dI) vwCl (t3 cI cZ cL) s) (hE : ex A s) {h0 a1 n0 r0 j0 p0 o0 g0 m1 m2 m3 m4 m5 m6 m7 m8 m9 m10 m11 m12 m13 m14 m15 m16 m17 m18 m19 m20 m21 : Nat} {H : Heap} {locs : List Loc} (hP : va_P (dC, dI) vwCl [(h0, .inr (6, [.ref a1, .int 0, .int (-1), .ref n0, .ref r0, .ref j0, .ref p0])), (a1, .inl (cI, 60, .inl zI)), (o0, .inl (cL, 1, .inr (.inl zL))), (g0, .inr (7, [.int 0, .ref m1, .int 0, .int 0, .int 0, .int 0, .int (-1), .int 0, .int 0, .ref m2, .ref m3, .ref m4, .int 0, .ref m5, .ref m6, .ref m7, .int 0, .ref m8, .ref m9, .ref m10, .int 0, .int 0, .ref m11, .ref m12, .ref m13, .int 0, .int 0, .ref m14, .int 0, .ref m15, .ref m16, .ref m17, .int 0, .int 0, .ref m18, .ref m19, .ref m20, .int 0, .ref m21])), (m1, .inl (cI, 60, .inl zI))] H) (hD : va_D A [(h0, .inr (6, [.ref a1, .int 0, .int (-1), .ref n0, .ref r0, .ref j0, .ref p0])), (a1, .inl (cI, 60, .inl zI)), (o0, .inl (cL, 1, .inr (.inl zL))), (g0, .inr (7, [.int 0, .ref m1, .int 0, .int 0, .int 0, .int 0, .int (-1), .int 0, .int 0, .ref m2, .ref m3, .ref m4, .int 0, .ref m5, .ref m6, .ref m7, .int 0, .ref m8, .ref m9, .ref m10, .int 0, .int 0, .ref m11, .ref m12, .ref m13, .int 0, .int 0, .ref m14, .int 0, .ref m15, .ref m16, .ref m17, .int 0, .int 0, .ref m18, .ref m19, .ref m20, .int 0, .ref m21])), (m1, .inl (cI, 60, .inl zI))]) (hS : va_S A s.heap H locs) {ls : Array Slot} (hl : lv_has ls 7 [(0, .ref b), (1, .ref h0), (2, .ref g0), (3, .ref o0), (4, .int 0)]) (j : Nat) (hj : j < 9) (h1 : 0 < j) (hj3 : xs 3 = nI j) : W p l e room_1 s m #[Value.ref b] below meth c H locs 47 729261 (lw_Z below #[Value.ref b] s) (F0 m 84 ls []) := by
  obtain ⟨hx, hb, hr, hml, hown, hts, hX, hbl, hlocks, hgv⟩ := id C0
  have hg : ∀ w ∈ gw_all, w.before #[Value.ref b] s = true := fun w h => hts w (gw_in w h)
  refine W.widen (k := 47) (n := 729261) (Nat.le_of_ble_eq_true rfl) (Nat.le_of_ble_eq_true rfl) ?_
  refine lv_aload_n hx hb dL_law_84 rfl (lv_at hl 1 rfl) ?_
  refine lv_aload_n hx hb dL_law_85 rfl (lv_at hl 0 rfl) ?_
  refine lv_iload hx hb dL_law_86 (lv_at hl 4 rfl) ?_
  refine lv_iconst (v := 1) hx hb dL_law_88 (by decide) ?_
  refine lv_iadd hx hb dL_law_89 ?_
  refine lv_topi (fun z1 ez1 => ?_)
  obtain rfl : z1 = 1 := ez1.trans (by decide)
  refine va_sld hx hb hX hbl hbA hS (vp_lit (by decide) (by decide)) dL_law_90 ?_
  refine lv_topi (fun z2 ez2 => ?_)
  obtain rfl : z2 = xs 1 := ez2
  refine lv_i2l hx hb dL_law_91 rfl ?_
  refine lv_topl (fun z3 ez3 => ?_)
  refine lv_bipush (v := 32) hx hb dL_law_92 (by decide) ?_
  refine lv_lshl hx hb dL_law_94 rfl ?_
  refine lv_topl (fun z4 ez4 => ?_)
  refine lv_aload_n hx hb dL_law_95 rfl (lv_at hl 0 rfl) ?_
  refine lv_iload hx hb dL_law_96 (lv_at hl 4 rfl) ?_
  refine lv_iconst (v := 2) hx hb dL_law_98 (by decide) ?_
  refine lv_iadd hx hb dL_law_99 ?_
  refine lv_topi (fun z5 ez5 => ?_)
  obtain rfl : z5 = 2 := ez5.trans (by decide)
  refine va_sld hx hb hX hbl hbA hS (vp_lit (by decide) (by decide)) dL_law_100 ?_
  refine lv_topi (fun z6 ez6 => ?_)
  obtain rfl : z6 = xs 2 := ez6
  refine lv_i2l hx hb dL_law_101 rfl ?_
  refine lv_topl (fun z7 ez7 => ?_)
  refine lv_ldc2 (v := 4294967295) hx hb hown (hg _ k_352) dL_law_102 ?_
  refine lv_land hx hb dL_law_105 ?_
  refine lv_topl (fun z8 ez8 => ?_)
  refine lv_lor hx hb dL_law_106 ?_
  refine lv_topl (fun z9 ez9 => ?_)
  refine lv_aload_n hx hb dL_law_107 rfl (lv_at hl 0 rfl) ?_
  refine lv_iload hx hb dL_law_108 (lv_at hl 4 rfl) ?_
  refine lv_iconst (v := 3) hx hb dL_law_110 (by decide) ?_
  refine lv_iadd hx hb dL_law_111 ?_
  refine lv_topi (fun z10 ez10 => ?_)
  obtain rfl : z10 = 3 := ez10.trans (by decide)
  refine va_sld hx hb hX hbl hbA hS (vp_lit (by decide) (by decide)) dL_law_112 ?_
  refine lv_topi (fun z11 ez11 => ?_)
  obtain rfl : z11 = (nI j) := Eq.trans ez11 hj3
  refine lv_aload_n hx hb dL_law_113 rfl (lv_at hl 3 rfl) ?_
  have hPc := hP.sub (ws' := [(h0, .inr (6, [.ref a1, .int 0, .int (-1), .ref n0, .ref r0, .ref j0, .ref p0])), (a1, .inl (cI, 60, .inl zI)), (o0, .inl (cL, 1, .inr (.inl zL)))]) [0, 1, 2] rfl
  have hDc := hD.sub (ws' := [(h0, .inr (6, [.ref a1, .int 0, .int (-1), .ref n0, .ref r0, .ref j0, .ref p0])), (a1, .inl (cI, 60, .inl zI)), (o0, .inl (cL, 1, .inr (.inl zL)))]) [0, 1, 2] (by decide) rfl
  have hFc := va_free (wc := [(h0, .inr (6, [.ref a1, .int 0, .int (-1), .ref n0, .ref r0, .ref j0, .ref p0])), (a1, .inl (cI, 60, .inl zI)), (o0, .inl (cL, 1, .inr (.inl zL)))]) hD hS hA [0, 1, 2] rfl
  refine va_calli (vx_runSW (As := [.ref h0, .long z9, .int (nI j), .ref o0]) (rest := []) ⟨hx, hb, hml, hown, hg⟩ (c_L_feedG l dC dI cI cZ cL h0 a1 o0 (Array.size _) n0 r0 j0 p0 z9 j zL hj h1) (vx_cwSW 4 hg (gw_S k_353 k_354 k_335 g_yL_feed) rfl rfl rfl (by decide +kernel) ⟨(Nat.le_of_ble_eq_true rfl), (Nat.le_of_ble_eq_true rfl)⟩) ⟨hp_bl, fun U hU hW => hp_ok hU hW hPc hK hDc⟩ rfl rfl hl.1 rfl (lv_room (Nat.le_of_ble_eq_true rfl)) dL_law_114 ⟨(Nat.le_of_ble_eq_true rfl), (Nat.le_of_ble_eq_true rfl)⟩) hS (fun q _ h => hFc q h) hFc (fun r9 u t H locs ht hvm hw hB hz1 hk1 hS => ?_)
  obtain ⟨hP1, hD1⟩ := hB
  rw [ht] at hP1
  obtain ⟨hP, hD⟩ := va_join (wr := [(g0, .inr (7, [.int 0, .ref m1, .int 0, .int 0, .int 0, .int 0, .int (-1), .int 0, .int 0, .ref m2, .ref m3, .ref m4, .int 0, .ref m5, .ref m6, .ref m7, .int 0, .ref m8, .ref m9, .ref m10, .int 0, .int 0, .ref m11, .ref m12, .ref m13, .int 0, .int 0, .ref m14, .int 0, .ref m15, .ref m16, .ref m17, .int 0, .int 0, .ref m18, .ref m19, .ref m20, .int 0, .ref m21])), (m1, .inl (cI, 60, .inl zI))]) (w1 := [(o0, .inl (cL, 1, .inr (.inl (vp_updL zL 0 (Int32.toInt64 (nI j))))))]) hP hD [0, 1, 2] [3, 4] rfl rfl (by decide) (by decide) hk1 hFc hP1 hD1
  have hP : va_P (dC, dI) vwCl [(g0, .inr (7, [.int 0, .ref m1, .int 0, .int 0, .int 0, .int 0, .int (-1), .int 0, .int 0, .ref m2, .ref m3, .ref m4, .int 0, .ref m5, .ref m6, .ref m7, .int 0, .ref m8, .ref m9, .ref m10, .int 0, .int 0, .ref m11, .ref m12, .ref m13, .int 0, .int 0, .ref m14, .int 0, .ref m15, .ref m16, .ref m17, .int 0, .int 0, .ref m18, .ref m19, .ref m20, .int 0, .ref m21])), (m1, .inl (cI, 60, .inl zI)), (o0, .inl (cL, 1, .inr (.inl (vp_updL zL 0 (Int32.toInt64 (nI j))))))] H := hP
  have hD : va_D A [(g0, .inr (7, [.int 0, .ref m1, .int 0, .int 0, .int 0, .int 0, .int (-1), .int 0, .int 0, .ref m2, .ref m3, .ref m4, .int 0, .ref m5, .ref m6, .ref m7, .int 0, .ref m8, .ref m9, .ref m10, .int 0, .int 0, .ref m11, .ref m12, .ref m13, .int 0, .int 0, .ref m14, .int 0, .ref m15, .ref m16, .ref m17, .int 0, .int 0, .ref m18, .ref m19, .ref m20, .int 0, .ref m21])), (m1, .inl (cI, 60, .inl zI)), (o0, .inl (cL, 1, .inr (.inl (vp_updL zL 0 (Int32.toInt64 (nI j))))))] := hD
  refine W.widen (k := 47) (n := 729261) (Nat.le_of_ble_eq_true rfl) (Nat.le_of_ble_eq_true rfl) ?_
  obtain rfl : r9 = 0 := hw
  refine lv_istore (lv' := [(5, .int 0), (0, .ref b), (1, .ref h0), (2, .ref g0), (3, .ref o0), (4, .int 0)]) hx hb dL_law_117 hl (by decide) rfl (fun ls hl => ?_)
  refine lv_aload_n hx hb dL_law_119 rfl (lv_at hl 3 rfl) ?_
  refine lv_aload_n hx hb dL_law_120 rfl (lv_at hl 1 rfl) ?_
  refine lv_iload hx hb dL_law_121 (lv_at hl 5 rfl) ?_
  refine lv_iconst (v := 1) hx hb dL_law_123 (by decide) ?_
  refine lv_iadd hx hb dL_law_124 ?_
  refine lv_topi (fun z12 ez12 => ?_)
  obtain rfl : z12 = 1 := ez12.trans (by decide)
  refine va_sld hx hb hX hbl hbA hS (vp_lit (by decide) (by decide)) dL_law_125 ?_
  refine lv_topi (fun z13 ez13 => ?_)
  obtain rfl : z13 = xs 1 := ez13
  refine lv_i2l hx hb dL_law_126 rfl ?_
  refine lv_topl (fun z14 ez14 => ?_)
  refine lv_bipush (v := 32) hx hb dL_law_127 (by decide) ?_
  refine lv_lshl hx hb dL_law_129 rfl ?_
  refine lv_topl (fun z15 ez15 => ?_)
  refine lv_aload_n hx hb dL_law_130 rfl (lv_at hl 1 rfl) ?_
  refine lv_iload hx hb dL_law_131 (lv_at hl 5 rfl) ?_
  refine lv_iconst (v := 2) hx hb dL_law_133 (by decide) ?_
  refine lv_iadd hx hb dL_law_134 ?_
  refine lv_topi (fun z16 ez16 => ?_)
  obtain rfl : z16 = 2 := ez16.trans (by decide)
  refine va_sld hx hb hX hbl hbA hS (vp_lit (by decide) (by decide)) dL_law_135 ?_
  refine lv_topi (fun z17 ez17 => ?_)
  obtain rfl : z17 = xs 2 := ez17
  refine lv_i2l hx hb dL_law_136 rfl ?_
  refine lv_topl (fun z18 ez18 => ?_)
  refine lv_ldc2 (v := 4294967295) hx hb hown (hg _ k_352) dL_law_137 ?_
  refine lv_land hx hb dL_law_140 ?_
  refine lv_topl (fun z19 ez19 => ?_)
  refine lv_lor hx hb dL_law_141 ?_
  refine lv_topl (fun z20 ez20 => ?_)
  refine lv_aload_n hx hb dL_law_142 rfl (lv_at hl 1 rfl) ?_
  refine lv_iload hx hb dL_law_143 (lv_at hl 5 rfl) ?_
  refine lv_iconst (v := 3) hx hb dL_law_145 (by decide) ?_
  refine lv_iadd hx hb dL_law_146 ?_
  refine lv_topi (fun z21 ez21 => ?_)
  obtain rfl : z21 = 3 := ez21.trans (by decide)
  refine va_sld hx hb hX hbl hbA hS (vp_lit (by decide) (by decide)) dL_law_147 ?_
  refine lv_topi (fun z22 ez22 => ?_)
  obtain rfl : z22 = (nI j) := Eq.trans ez22 hj3
  have hPc := hP.sub (ws' := [(g0, .inr (7, [.int 0, .ref m1, .int 0, .int 0, .int 0, .int 0, .int (-1), .int 0, .int 0, .ref m2, .ref m3, .ref m4, .int 0, .ref m5, .ref m6, .ref m7, .int 0, .ref m8, .ref m9, .ref m10, .int 0, .int 0, .ref m11, .ref m12, .ref m13, .int 0, .int 0, .ref m14, .int 0, .ref m15, .ref m16, .ref m17, .int 0, .int 0, .ref m18, .ref m19, .ref m20, .int 0, .ref m21])), (m1, .inl (cI, 60, .inl zI))]) [0, 1] rfl
  have hDc := hD.sub (ws' := [(g0, .inr (7, [.int 0, .ref m1, .int 0, .int 0, .int 0, .int 0, .int (-1), .int 0, .int 0, .ref m2, .ref m3, .ref m4, .int 0, .ref m5, .ref m6, .ref m7, .int 0, .ref m8, .ref m9, .ref m10, .int 0, .int 0, .ref m11, .ref m12, .ref m13, .int 0, .int 0, .ref m14, .int 0, .ref m15, .ref m16, .ref m17, .int 0, .int 0, .ref m18, .ref m19, .ref m20, .int 0, .ref m21])), (m1, .inl (cI, 60, .inl zI))]) [0, 1] (by decide) rfl
  have hFc := va_free (wc := [(g0, .inr (7, [.int 0, .ref m1, .int 0, .int 0, .int 0, .int 0, .int (-1), .int 0, .int 0, .ref m2, .ref m3, .ref m4, .int 0, .ref m5, .ref m6, .ref m7, .int 0, .ref m8, .ref m9, .ref m10, .int 0, .int 0, .ref m11, .ref m12, .ref m13, .int 0, .int 0, .ref m14, .int 0, .ref m15, .ref m16, .ref m17, .int 0, .int 0, .ref m18, .ref m19, .ref m20, .int 0, .ref m21])), (m1, .inl (cI, 60, .inl zI))]) hD hS hA [0, 1] rfl
  refine va_calli (va_runV (As := [.long z20, .int (nI j)]) (rest := []) ⟨hx, hb, hml, hown, hg⟩ (c_X7_feedG l dC dI cI cZ cL g0 m1 (Array.size _) m2 m3 m4 m5 m6 m7 m8 m9 m10 m11 m12 m13 m14 m15 m16 m17 m18 m19 m20 m21 z20 j hj h1) (cwV 2 hg (gw_V k_355 k_356 k_357 k_245 g_yX7_feed) rfl rfl rfl (by decide +kernel) ⟨(Nat.le_of_ble_eq_true rfl), (Nat.le_of_ble_eq_true rfl)⟩) ⟨hp_bl, va_recv hK hPc (ci := 7) (q0 := 0) rfl rfl, fun U hU hW => hp_ok hU hW hPc hK hDc⟩ rfl rfl hl.1 rfl (lv_room (Nat.le_of_ble_eq_true rfl)) dL_law_148 ⟨(Nat.le_of_ble_eq_true rfl), (Nat.le_of_ble_eq_true rfl)⟩) hS (fun q _ h => hFc q h) hFc (fun r9 u t H locs ht hvm hw hB hz1 hk1 hS => ?_)
  obtain ⟨hP1, hD1⟩ := hB
  rw [ht] at hP1
  obtain ⟨hP, hD⟩ := va_join (wr := [(o0, .inl (cL, 1, .inr (.inl (vp_updL zL 0 (Int32.toInt64 (nI j))))))]) (w1 := [(g0, .inr (7, [.int 0, .ref m1, .int (nI j), .int 0, .int 0, .int 0, .int (-1), .int 0, .int 0, .ref m2, .ref m3, .ref m4, .int 0, .ref m5, .ref m6, .ref m7, .int 0, .ref m8, .ref m9, .ref m10, .int 0, .int 0, .ref m11, .ref m12, .ref m13, .int 0, .int 0, .ref m14, .int 0, .ref m15, .ref m16, .ref m17, .int 0, .int 0, .ref m18, .ref m19, .ref m20, .int 0, .ref m21]))]) hP hD [0, 1] [2] rfl rfl (by decide) (by decide) hk1 hFc hP1 hD1
  have hP : va_P (dC, dI) vwCl [(o0, .inl (cL, 1, .inr (.inl (vp_updL zL 0 (Int32.toInt64 (nI j)))))), (g0, .inr (7, [.int 0, .ref m1, .int (nI j), .int 0, .int 0, .int 0, .int (-1), .int 0, .int 0, .ref m2, .ref m3, .ref m4, .int 0, .ref m5, .ref m6, .ref m7, .int 0, .ref m8, .ref m9, .ref m10, .int 0, .int 0, .ref m11, .ref m12, .ref m13, .int 0, .int 0, .ref m14, .int 0, .ref m15, .ref m16, .ref m17, .int 0, .int 0, .ref m18, .ref m19, .ref m20, .int 0, .ref m21]))] H := hP
  have hD : va_D A [(o0, .inl (cL, 1, .inr (.inl (vp_updL zL 0 (Int32.toInt64 (nI j)))))), (g0, .inr (7, [.int 0, .ref m1, .int (nI j), .int 0, .int 0, .int 0, .int (-1), .int 0, .int 0, .ref m2, .ref m3, .ref m4, .int 0, .ref m5, .ref m6, .ref m7, .int 0, .ref m8, .ref m9, .ref m10, .int 0, .int 0, .ref m11, .ref m12, .ref m13, .int 0, .int 0, .ref m14, .int 0, .ref m15, .ref m16, .ref m17, .int 0, .int 0, .ref m18, .ref m19, .ref m20, .int 0, .ref m21]))] := hD
  refine W.widen (k := 47) (n := 729261) (Nat.le_of_ble_eq_true rfl) (Nat.le_of_ble_eq_true rfl) ?_
  obtain ⟨r23, rfl⟩ : ∃ z, z = r9 := ⟨_, rfl⟩
  have wr23 := hw
  obtain rfl : r23 = nI j := wr23
  refine lv_istore (lv' := [(6, .int (nI j)), (5, .int 0), (0, .ref b), (1, .ref h0), (2, .ref g0), (3, .ref o0), (4, .int 0)]) hx hb dL_law_151 hl (by decide) rfl (fun ls hl => ?_)
  refine lv_aload_n hx hb dL_law_153 rfl (lv_at hl 4 rfl) ?_
  have hPc := hP.sub (ws' := [(g0, .inr (7, [.int 0, .ref m1, .int (nI j), .int 0, .int 0, .int 0, .int (-1), .int 0, .int 0, .ref m2, .ref m3, .ref m4, .int 0, .ref m5, .ref m6, .ref m7, .int 0, .ref m8, .ref m9, .ref m10, .int 0, .int 0, .ref m11, .ref m12, .ref m13, .int 0, .int 0, .ref m14, .int 0, .ref m15, .ref m16, .ref m17, .int 0, .int 0, .ref m18, .ref m19, .ref m20, .int 0, .ref m21]))]) [1] rfl
  have hDc := hD.sub (ws' := [(g0, .inr (7, [.int 0, .ref m1, .int (nI j), .int 0, .int 0, .int 0, .int (-1), .int 0, .int 0, .ref m2, .ref m3, .ref m4, .int 0, .ref m5, .ref m6, .ref m7, .int 0, .ref m8, .ref m9, .ref m10, .int 0, .int 0, .ref m11, .ref m12, .ref m13, .int 0, .int 0, .ref m14, .int 0, .ref m15, .ref m16, .ref m17, .int 0, .int 0, .ref m18, .ref m19, .ref m20, .int 0, .ref m21]))]) [1] (by decide) rfl
  have hFc := va_free (wc := [(g0, .inr (7, [.int 0, .ref m1, .int (nI j), .int 0, .int 0, .int 0, .int (-1), .int 0, .int 0, .ref m2, .ref m3, .ref m4, .int 0, .ref m5, .ref m6, .ref m7, .int 0, .ref m8, .ref m9, .ref m10, .int 0, .int 0, .ref m11, .ref m12, .ref m13, .int 0, .int 0, .ref m14, .int 0, .ref m15, .ref m16, .ref m17, .int 0, .int 0, .ref m18, .ref m19, .ref m20, .int 0, .ref m21]))]) hD hS hA [1] rfl
  refine va_calli (va_runV (As := []) (rest := []) ⟨hx, hb, hml, hown, hg⟩ (c_X7_thrown l dC dI cI cZ cL g0 (Array.size _) 0 [.ref m1, .int (nI j), .int 0, .int 0, .int 0, .int (-1), .int 0, .int 0, .ref m2, .ref m3, .ref m4, .int 0, .ref m5, .ref m6, .ref m7, .int 0, .ref m8, .ref m9, .ref m10, .int 0, .int 0, .ref m11, .ref m12, .ref m13, .int 0, .int 0, .ref m14, .int 0, .ref m15, .ref m16, .ref m17, .int 0, .int 0, .ref m18, .ref m19, .ref m20, .int 0, .ref m21]) (cwV 0 hg (gw_V k_339 k_340 k_341 k_245 g_yX7_thrown) rfl rfl rfl (by decide +kernel) ⟨(Nat.le_of_ble_eq_true rfl), (Nat.le_of_ble_eq_true rfl)⟩) ⟨hp_bl, va_recv hK hPc (ci := 7) (q0 := 0) rfl rfl, fun U hU hW => hp_ok hU hW hPc hK hDc⟩ rfl rfl hl.1 rfl (lv_room (Nat.le_of_ble_eq_true rfl)) dL_law_154 ⟨(Nat.le_of_ble_eq_true rfl), (Nat.le_of_ble_eq_true rfl)⟩) hS (fun q _ h => hFc q h) hFc (fun r9 u t H locs ht hvm hw hB hz1 hk1 hS => ?_)
  obtain ⟨hP1, hD1⟩ := hB
  rw [ht] at hP1
  obtain ⟨hP, hD⟩ := va_join (wr := [(o0, .inl (cL, 1, .inr (.inl (vp_updL zL 0 (Int32.toInt64 (nI j))))))]) (w1 := []) hP hD [1] [0] rfl rfl (by decide) (by decide) hk1 hFc hP1 hD1
  have hP : va_P (dC, dI) vwCl [(o0, .inl (cL, 1, .inr (.inl (vp_updL zL 0 (Int32.toInt64 (nI j))))))] H := hP
  have hD : va_D A [(o0, .inl (cL, 1, .inr (.inl (vp_updL zL 0 (Int32.toInt64 (nI j))))))] := hD
  refine W.widen (k := 47) (n := 729261) (Nat.le_of_ble_eq_true rfl) (Nat.le_of_ble_eq_true rfl) ?_
  obtain rfl : r9 = 0 := hw
  refine lv_iload hx hb dL_law_157 (lv_at hl 1 rfl) ?_
  refine lv_icmp_eq (tgt := 164) hx hb dL_law_159 (by decide) (fun _ => ?_) (fun c9 => absurd (by decide) c9)
  refine lv_iload hx hb dL_law_164 (lv_at hl 1 rfl) ?_
  refine lv_if_ne (tgt := 181) hx hb dL_law_166 (by decide) (fun c9 => absurd c9 (by decide)) (fun _ => ?_)
  refine lv_aload_n hx hb dL_law_169 rfl (lv_at hl 5 rfl) ?_
  refine lv_iconst (v := 0) hx hb dL_law_170 (by decide) ?_
  refine va_lald hx hb hK hP 0 2 rfl rfl (vp_lit (by decide) (by decide)) dL_law_171 ?_
  refine lv_topl (fun z24 ez24 => ?_)
  refine lv_iload hx hb dL_law_172 (lv_at hl 0 rfl) ?_
  refine lv_i2l hx hb dL_law_174 rfl ?_
  refine lv_topl (fun z25 ez25 => ?_)
  refine W.lcmp hx hb dL_law_175 ?_
  refine lv_topi (fun z26 ez26 => ?_)
  obtain rfl : z26 = 0 := ez26.trans (by rw [ez25, ez24]; exact lg_same _)
  refine lv_if_eq (tgt := 181) hx hb dL_law_176 (by decide) (fun _ => ?_) (fun c9 => absurd (by decide) c9)
  refine lv_goto (tgt := 394) hx hb dL_law_181 (by decide) ?_
  exact law_tail hbA hAf C0 (Nat.le_of_ble_eq_true rfl) (Nat.le_of_ble_eq_true rfl) hS (lv_sub hl [2, 6] rfl)
