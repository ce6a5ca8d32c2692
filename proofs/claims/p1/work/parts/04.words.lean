/-! the tables' words that hold on in every later state: one list for all methods -/
def gw_all : List Cond := lw_tbl.filter goodWord
theorem gw_m {w : Cond} (i : Nat) (h : lw_tbl[i]? = some w) (g : goodWord w = true) : w ∈ gw_all := List.mem_filter.mpr ⟨List.mem_of_getElem? h, g⟩
theorem gw_in : ∀ w ∈ gw_all, w ∈ lw_tbl := fun _ h => (List.mem_filter.mp h).1
theorem gw_ok : GoodIn gw_all gw_all := fun _ h => ⟨h, good_of_word (List.mem_filter.mp h).2⟩
theorem gw_1 {w : Cond} (h : w ∈ gw_all) : GoodIn gw_all (w :: gw_all) := fun v hv => (List.mem_cons.mp hv).elim (fun e => by rw [e]; exact gw_ok w h) (gw_ok v)
theorem gw_V {own C : String} {i : Nat} {y : MethodName} {ws : List Cond} (h1 : Cond.methodLink own i y ∈ gw_all) (h2 : Cond.instanceMethod y ∈ gw_all) (h3 : Cond.selects C y y ∈ gw_all) (h4 : Cond.initialized C ∈ gw_all) (h : GoodIn gw_all ws) : GoodIn gw_all (wsV own i C y ws) := by
  intro w hw
  rcases List.mem_append.mp hw with hw | hw
  · simp only [List.mem_cons, List.not_mem_nil, or_false] at hw
    rcases hw with rfl | rfl | rfl | rfl
    · exact gw_ok _ h1
    · exact gw_ok _ h2
    · exact gw_ok _ h3
    · exact gw_ok _ h4
  · exact h w hw
theorem gw_S {own : String} {i : Nat} {y : MethodName} {ws : List Cond} (h1 : Cond.methodLink own i y ∈ gw_all) (h2 : Cond.static y ∈ gw_all) (h4 : Cond.initialized y.cls ∈ gw_all) (h : GoodIn gw_all ws) : GoodIn gw_all (va_wsS own i y ws) := by
  intro w hw
  rcases List.mem_append.mp hw with hw | hw
  · simp only [List.mem_cons, List.not_mem_nil, or_false] at hw
    rcases hw with rfl | rfl | rfl
    · exact gw_ok _ h1
    · exact gw_ok _ h2
    · exact gw_ok _ h4
  · exact h w hw
theorem gw_r (ws : List Cond) (ps : List Nat) (hp : ws = ps.filterMap (fun i => lw_tbl[i]?)) (h : ws.all goodWord = true) : ∀ w ∈ ws, w ∈ gw_all := by
  intro w hw
  have h1 := List.all_eq_true.mp h w hw
  rw [hp] at hw
  obtain ⟨i, -, hi⟩ := List.mem_filterMap.mp hw
  exact gw_m i hi h1
/-- a method's words: its code, and those of the list -/
abbrev wd (y : MethodName) (b : ByteArray) (n : Nat) (r : Option FieldType) : List Cond := .code y b n r :: gw_all
abbrev wh (y : MethodName) (b : ByteArray) (n : Nat) (r : Option FieldType) (hh : List (Nat × Nat × Nat × Nat)) : List Cond := .codeWith y b n r hh :: gw_all
theorem gw_hts {w0 : Cond} {args : Array Value} {s : State} (h : ∀ w ∈ w0 :: gw_all, w.before args s = true) : ∀ w ∈ gw_all, w.before args s = true := fun w hw => h w (List.mem_cons_of_mem _ hw)

theorem i_X0 : ∀ w ∈ u_ws RX0 TX0 4, w ∈ gw_all := gw_r _ [173, 175, 177, 179] (by decide +kernel) (by decide +kernel)
theorem i_X1 : ∀ w ∈ u_ws RX1 TX1 11, w ∈ gw_all := gw_r _ [218, 220, 222, 224, 226, 228, 230, 232, 234, 236, 238] (by decide +kernel) (by decide +kernel)
theorem i_X2 : ∀ w ∈ u_ws RX2 TX2 6, w ∈ gw_all := gw_r _ [108, 110, 112, 114, 116, 118] (by decide +kernel) (by decide +kernel)
theorem i_X3 : ∀ w ∈ u_ws RX3 TX3 6, w ∈ gw_all := gw_r _ [253, 255, 257, 259, 261, 263] (by decide +kernel) (by decide +kernel)
theorem i_X4 : ∀ w ∈ u_ws RX4 TX4 9, w ∈ gw_all := gw_r _ [138, 140, 142, 144, 146, 148, 150, 152, 154] (by decide +kernel) (by decide +kernel)
theorem i_X5 : ∀ w ∈ u_ws RX5 TX5 6, w ∈ gw_all := gw_r _ [194, 196, 198, 200, 202, 204] (by decide +kernel) (by decide +kernel)
theorem i_X6 : ∀ w ∈ u_ws RX6 TX6 7, w ∈ gw_all := gw_r _ [273, 275, 277, 279, 281, 283, 285] (by decide +kernel) (by decide +kernel)
theorem i_X7 : ∀ w ∈ u_ws RX7 TX7 39, w ∈ gw_all := gw_r _ [837, 839, 841, 843, 845, 847, 849, 851, 853, 855, 857, 859, 861, 863, 865, 867, 869, 871, 873, 875, 877, 879, 881, 883, 885, 887, 889, 891, 893, 895, 897, 899, 901, 903, 905, 907, 909, 911, 913] (by decide +kernel) (by decide +kernel)
theorem df_X0 : ∀ j, j < 4 → defaultValue (tyX0 j) = vp_V [.null, .null, .null, .int 0] j := fun j hj => by
  match j, hj with
  | 0, _ => rfl
  | 1, _ => rfl
  | 2, _ => rfl
  | 3, _ => rfl
  | n + 4, h => exact absurd h (by omega)
theorem df_X1 : ∀ j, j < 11 → defaultValue (tyX1 j) = vp_V [.null, .null, .null, .null, .null, .null, .int 0, .int 0, .int 0, .int 0, .int 0] j := fun j hj => by
  match j, hj with
  | 0, _ => rfl
  | 1, _ => rfl
  | 2, _ => rfl
  | 3, _ => rfl
  | 4, _ => rfl
  | 5, _ => rfl
  | 6, _ => rfl
  | 7, _ => rfl
  | 8, _ => rfl
  | 9, _ => rfl
  | 10, _ => rfl
  | n + 11, h => exact absurd h (by omega)
theorem df_X2 : ∀ j, j < 6 → defaultValue (tyX2 j) = vp_V [.null, .null, .null, .null, .null, .int 0] j := fun j hj => by
  match j, hj with
  | 0, _ => rfl
  | 1, _ => rfl
  | 2, _ => rfl
  | 3, _ => rfl
  | 4, _ => rfl
  | 5, _ => rfl
  | n + 6, h => exact absurd h (by omega)
theorem df_X3 : ∀ j, j < 6 → defaultValue (tyX3 j) = vp_V [.null, .null, .null, .int 0, .int 0, .int 0] j := fun j hj => by
  match j, hj with
  | 0, _ => rfl
  | 1, _ => rfl
  | 2, _ => rfl
  | 3, _ => rfl
  | 4, _ => rfl
  | 5, _ => rfl
  | n + 6, h => exact absurd h (by omega)
theorem df_X4 : ∀ j, j < 9 → defaultValue (tyX4 j) = vp_V [.null, .null, .null, .null, .int 0, .int 0, .int 0, .int 0, .int 0] j := fun j hj => by
  match j, hj with
  | 0, _ => rfl
  | 1, _ => rfl
  | 2, _ => rfl
  | 3, _ => rfl
  | 4, _ => rfl
  | 5, _ => rfl
  | 6, _ => rfl
  | 7, _ => rfl
  | 8, _ => rfl
  | n + 9, h => exact absurd h (by omega)
theorem df_X5 : ∀ j, j < 6 → defaultValue (tyX5 j) = vp_V [.null, .null, .null, .null, .int 0, .int 0] j := fun j hj => by
  match j, hj with
  | 0, _ => rfl
  | 1, _ => rfl
  | 2, _ => rfl
  | 3, _ => rfl
  | 4, _ => rfl
  | 5, _ => rfl
  | n + 6, h => exact absurd h (by omega)
theorem df_X6 : ∀ j, j < 7 → defaultValue (tyX6 j) = vp_V [.null, .int 0, .int 0, .null, .null, .null, .null] j := fun j hj => by
  match j, hj with
  | 0, _ => rfl
  | 1, _ => rfl
  | 2, _ => rfl
  | 3, _ => rfl
  | 4, _ => rfl
  | 5, _ => rfl
  | 6, _ => rfl
  | n + 7, h => exact absurd h (by omega)
theorem df_X7 : ∀ j, j < 39 → defaultValue (tyX7 j) = vp_V [.int 0, .null, .int 0, .int 0, .int 0, .int 0, .int 0, .int 0, .int 0, .null, .null, .null, .int 0, .null, .null, .null, .int 0, .null, .null, .null, .int 0, .int 0, .null, .null, .null, .int 0, .int 0, .null, .int 0, .null, .null, .null, .int 0, .int 0, .null, .null, .null, .int 0, .null] j := fun j hj => by
  match j, hj with
  | 0, _ => rfl
  | 1, _ => rfl
  | 2, _ => rfl
  | 3, _ => rfl
  | 4, _ => rfl
  | 5, _ => rfl
  | 6, _ => rfl
  | 7, _ => rfl
  | 8, _ => rfl
  | 9, _ => rfl
  | 10, _ => rfl
  | 11, _ => rfl
  | 12, _ => rfl
  | 13, _ => rfl
  | 14, _ => rfl
  | 15, _ => rfl
  | 16, _ => rfl
  | 17, _ => rfl
  | 18, _ => rfl
  | 19, _ => rfl
  | 20, _ => rfl
  | 21, _ => rfl
  | 22, _ => rfl
  | 23, _ => rfl
  | 24, _ => rfl
  | 25, _ => rfl
  | 26, _ => rfl
  | 27, _ => rfl
  | 28, _ => rfl
  | 29, _ => rfl
  | 30, _ => rfl
  | 31, _ => rfl
  | 32, _ => rfl
  | 33, _ => rfl
  | 34, _ => rfl
  | 35, _ => rfl
  | 36, _ => rfl
  | 37, _ => rfl
  | 38, _ => rfl
  | n + 39, h => exact absurd h (by omega)
theorem k_0 : Cond.code yX0_init cX0_init 2 none ∈ gw_all := gw_m 167 (by decide +kernel) rfl
theorem k_1 : Cond.code yX5_init cX5_init 3 none ∈ gw_all := gw_m 186 (by decide +kernel) rfl
theorem k_2 : Cond.code yX1_init cX1_init 2 none ∈ gw_all := gw_m 161 (by decide +kernel) rfl
theorem k_3 : Cond.code yX2_init cX2_init 1 none ∈ gw_all := gw_m 100 (by decide +kernel) rfl
theorem k_4 : Cond.code yX3_init cX3_init 2 none ∈ gw_all := gw_m 245 (by decide +kernel) rfl
theorem k_5 : Cond.code yX4_init cX4_init 3 none ∈ gw_all := gw_m 127 (by decide +kernel) rfl
theorem k_6 : Cond.code yX6_init cX6_init 1 none ∈ gw_all := gw_m 92 (by decide +kernel) rfl
theorem k_7 : Cond.code yX7_init cX7_init 1 none ∈ gw_all := gw_m 795 (by decide +kernel) rfl
theorem k_8 : Cond.methodLink RX0 3 objectInit ∈ gw_all := gw_m 168 (by decide +kernel) rfl
theorem k_9 : Cond.instanceMethod objectInit ∈ gw_all := gw_m 94 (by decide +kernel) rfl
theorem k_10 : Cond.code objectInit ⟨#[0xb1]⟩ 1 none ∈ gw_all := gw_m 95 (by decide +kernel) rfl
theorem k_11 : Cond.arrayClass .int ∈ gw_all := gw_m 121 (by decide +kernel) rfl
theorem k_12 : Cond.fieldLink RX0 9 "TypeBench$Context" "row" "[I" ∈ gw_all := gw_m 170 (by decide +kernel) rfl
theorem k_13 : Cond.fieldLink RX0 15 "TypeBench$Context" "places" "[I" ∈ gw_all := gw_m 171 (by decide +kernel) rfl
theorem k_14 : Cond.fieldLink RX0 18 "TypeBench$Context" "length" "I" ∈ gw_all := gw_m 172 (by decide +kernel) rfl
theorem k_15 : Cond.fieldLink RX0 22 "TypeBench$Context" "nodes" "LTypeBench$Nodes;" ∈ gw_all := gw_m 169 (by decide +kernel) rfl
theorem k_16 : Cond.methodLink RX5 3 objectInit ∈ gw_all := gw_m 187 (by decide +kernel) rfl
theorem k_17 : Cond.fieldLink RX5 9 "TypeBench$Search" "waiting" "[I" ∈ gw_all := gw_m 190 (by decide +kernel) rfl
theorem k_18 : Cond.fieldLink RX5 15 "TypeBench$Search" "visits" "[I" ∈ gw_all := gw_m 191 (by decide +kernel) rfl
theorem k_19 : Cond.fieldLink RX5 18 "TypeBench$Search" "count" "I" ∈ gw_all := gw_m 192 (by decide +kernel) rfl
theorem k_20 : Cond.fieldLink RX5 22 "TypeBench$Search" "visit" "I" ∈ gw_all := gw_m 193 (by decide +kernel) rfl
theorem k_21 : Cond.fieldLink RX5 25 "TypeBench$Search" "nodes" "LTypeBench$Nodes;" ∈ gw_all := gw_m 188 (by decide +kernel) rfl
theorem k_22 : Cond.fieldLink RX5 29 "TypeBench$Search" "context" "LTypeBench$Context;" ∈ gw_all := gw_m 189 (by decide +kernel) rfl
theorem g_yX0_init : GoodIn gw_all (wd yX0_init cX0_init 2 none) := gw_1 k_0
theorem g_yX5_init : GoodIn gw_all (wd yX5_init cX5_init 3 none) := gw_1 k_1
theorem g_yX1_init : GoodIn gw_all (wd yX1_init cX1_init 2 none) := gw_1 k_2
theorem g_yX2_init : GoodIn gw_all (wd yX2_init cX2_init 1 none) := gw_1 k_3
theorem g_yX3_init : GoodIn gw_all (wd yX3_init cX3_init 2 none) := gw_1 k_4
theorem g_yX4_init : GoodIn gw_all (wd yX4_init cX4_init 3 none) := gw_1 k_5
theorem g_yX6_init : GoodIn gw_all (wd yX6_init cX6_init 1 none) := gw_1 k_6
theorem g_yX7_init : GoodIn gw_all (wd yX7_init cX7_init 1 none) := gw_1 k_7
