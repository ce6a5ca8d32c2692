/-! what a contract asks of the world, in one word; and small rows -/
abbrev t3 (cI cZ cL : ClassId) : List (ClassId × FieldType) := [(cI, .int), (cZ, .boolean), (cL, .long)]
abbrev zI : Nat → Int32 := fun _ => 0
abbrev zL : Nat → Int64 := fun _ => 0
def hp (dC : Nat → ClassId) (dI : Nat → Nat → Nat) (cI cZ cL : ClassId) (sz : Nat) (ws : va_W) (U : State) : Prop :=
  U.heap.size = sz ∧ va_P (dC, dI) vwCl ws U.heap ∧ va_K (dC, dI) vwCl (t3 cI cZ cL) U ∧ va_D (fun _ => True) ws
theorem hp_bl {dC : Nat → ClassId} {dI : Nat → Nat → Nat} {cI cZ cL : ClassId} {sz : Nat} {ws : va_W} {av : List Value} : FrameBlind (va_Pc av (hp dC dI cI cZ cL sz ws)) := fun a U g mk q => by
  obtain ⟨q0, q1, qP, qK, qD⟩ := q
  exact ⟨q0, q1, qP, va_K.moved (u := U) (U := U.calling g mk a) (Vm.Alike.refl U.vm) qK, qD⟩
theorem hp_ok {dC : Nat → ClassId} {dI : Nat → Nat → Nat} {cI cZ cL : ClassId} {ws : va_W} {A : Nat → Prop} {av : List Value} {s U : State} {H : Heap} (hU : U.heap = H) (hW : s.WarmedH U.vm) (hP : va_P (dC, dI) vwCl ws H) (hK : va_K (dC, dI) vwCl (t3 cI cZ cL) s) (hD : va_D A ws) : va_Pc av (hp dC dI cI cZ cL H.size ws) av.toArray U :=
  ⟨rfl, by rw [hU], by rw [hU]; exact hP, va_K.moved hW.alike hK, hD.weaken (fun _ _ _ _ => trivial)⟩
def hpn (dC : Nat → ClassId) (dI : Nat → Nat → Nat) (cI cZ cL : ClassId) (sz : Nat) (ws : va_W) (U : State) : Prop :=
  U.heap.size = sz ∧ va_P (dC, dI) vwCl ws U.heap ∧ va_K (dC, dI) vwCl (t3 cI cZ cL) U ∧ va_D (fun _ => True) ws ∧ va_Nw (.methodLinkNest RX6 22 yX2_init "TypeBench") U
theorem hpn_bl {dC : Nat → ClassId} {dI : Nat → Nat → Nat} {cI cZ cL : ClassId} {sz : Nat} {ws : va_W} {av : List Value} : FrameBlind (va_Pc av (hpn dC dI cI cZ cL sz ws)) := fun a U g mk q => by
  obtain ⟨q0, q1, qP, qK, qD, qN⟩ := q
  exact ⟨q0, q1, qP, va_K.moved (u := U) (U := U.calling g mk a) (Vm.Alike.refl U.vm) qK, qD, va_Nw.same rfl rfl qN⟩
theorem hpn_ok {dC : Nat → ClassId} {dI : Nat → Nat → Nat} {cI cZ cL : ClassId} {ws : va_W} {A : Nat → Prop} {av : List Value} {s U : State} {H : Heap} (hU : U.heap = H) (hW : s.WarmedH U.vm) (hP : va_P (dC, dI) vwCl ws H) (hK : va_K (dC, dI) vwCl (t3 cI cZ cL) s) (hD : va_D A ws) (hN : va_Nw (.methodLinkNest RX6 22 yX2_init "TypeBench") s) : va_Pc av (hpn dC dI cI cZ cL H.size ws) av.toArray U :=
  ⟨rfl, by rw [hU], by rw [hU]; exact hP, va_K.moved hW.alike hK, hD.weaken (fun _ _ _ _ => trivial), va_Nw.warmM hW hN⟩
theorem ty_at {D : va_G} {cl : List vw_C} {cI cZ cL cA : ClassId} {s : State} {ty : FieldType} (h : va_K D cl (t3 cI cZ cL ++ [(cA, ty)]) s) : va_RA s cI .int ∧ va_RA s cZ .boolean ∧ va_RA s cL .long ∧ va_RA s cA ty :=
  ⟨(h.2 0 _ rfl).2, (h.2 1 _ rfl).2, (h.2 2 _ rfl).2, (h.2 3 _ rfl).2⟩
theorem ty_int {D : va_G} {cl : List vw_C} {cI cZ cL cA : ClassId} {s : State} (h : va_K D cl (t3 cI cZ cL ++ [(cA, .int)]) s) : cI = cA := by
  obtain ⟨h1, -, -, h4⟩ := ty_at h
  exact Option.some.inj (Eq.trans (Eq.symm h1) h4)
theorem ty_boolean {D : va_G} {cl : List vw_C} {cI cZ cL cA : ClassId} {s : State} (h : va_K D cl (t3 cI cZ cL ++ [(cA, .boolean)]) s) : cZ = cA := by
  obtain ⟨-, h1, -, h4⟩ := ty_at h
  exact Option.some.inj (Eq.trans (Eq.symm h1) h4)
theorem ty_long {D : va_G} {cl : List vw_C} {cI cZ cL cA : ClassId} {s : State} (h : va_K D cl (t3 cI cZ cL ++ [(cA, .long)]) s) : cL = cA := by
  obtain ⟨-, -, h1, h4⟩ := ty_at h
  exact Option.some.inj (Eq.trans (Eq.symm h1) h4)
theorem vp_lit {i : Int32} {n : Nat} (h1 : ¬ i < 0) (h2 : ¬ n ≤ i.toNatClampNeg) : vp_in i n := fun h => h.elim h1 h2
