/-! the tables' words that hold on in every later state: one list for all methods -/
def gw_all : List Cond := lw_tbl.filter goodWord
theorem gw_m {w : Cond} (i : Nat) (h : lw_tbl[i]? = some w) (g : goodWord w = true) : w ∈ gw_all := List.mem_filter.mpr ⟨List.mem_of_getElem? h, g⟩
theorem gw_in : ∀ w ∈ gw_all, w ∈ lw_tbl := fun _ h => (List.mem_filter.mp h).1
theorem gw_ok : GoodIn gw_all gw_all := fun _ h => ⟨h, good_of_word (List.mem_filter.mp h).2⟩
theorem gw_1 {w : Cond} (h : w ∈ gw_all) : GoodIn gw_all (w :: gw_all) := fun v hv => (List.mem_cons.mp hv).elim (fun e => by rw [e]; exact gw_ok w h) (gw_ok v)
theorem gw_V {own C : String} {i : Nat} {y : MethodName} {ws : List Cond} (h1 : Cond.methodLink own i y ∈ gw_all) (h2 : Cond.instanceMethod y ∈ gw_all) (h3 : Cond.selects C y y ∈ gw_all) (h4 : Cond.initialized C ∈ gw_all) (h : GoodIn gw_all ws) : GoodIn gw_all (wsV own i C y ws) := by
  intro w hw
  rcases List.mem_append.mp hw with hw | hw
  · simp only [List.mem_cons, List.not_mem_nil, or_false] at hw
    rcases hw with rfl | rfl | rfl | rfl
    · exact gw_ok _ h1
    · exact gw_ok _ h2
    · exact gw_ok _ h3
    · exact gw_ok _ h4
  · exact h w hw
theorem gw_S {own : String} {i : Nat} {y : MethodName} {ws : List Cond} (h1 : Cond.methodLink own i y ∈ gw_all) (h2 : Cond.static y ∈ gw_all) (h4 : Cond.initialized y.cls ∈ gw_all) (h : GoodIn gw_all ws) : GoodIn gw_all (va_wsS own i y ws) := by
  intro w hw
  rcases List.mem_append.mp hw with hw | hw
  · simp only [List.mem_cons, List.not_mem_nil, or_false] at hw
    rcases hw with rfl | rfl | rfl
    · exact gw_ok _ h1
    · exact gw_ok _ h2
    · exact gw_ok _ h4
  · exact h w hw
theorem gw_r (ws : List Cond) (ps : List Nat) (hp : ws = ps.filterMap (fun i => lw_tbl[i]?)) (h : ws.all goodWord = true) : ∀ w ∈ ws, w ∈ gw_all := by
  intro w hw
  have h1 := List.all_eq_true.mp h w hw
  rw [hp] at hw
  obtain ⟨i, -, hi⟩ := List.mem_filterMap.mp hw
  exact gw_m i hi h1
/-- a method's words: its code, and those of the list -/
abbrev wd (y : MethodName) (b : ByteArray) (n : Nat) (r : Option FieldType) : List Cond := .code y b n r :: gw_all
abbrev wh (y : MethodName) (b : ByteArray) (n : Nat) (r : Option FieldType) (hh : List (Nat × Nat × Nat × Nat)) : List Cond := .codeWith y b n r hh :: gw_all
theorem gw_hts {w0 : Cond} {args : Array Value} {s : State} (h : ∀ w ∈ w0 :: gw_all, w.before args s = true) : ∀ w ∈ gw_all, w.before args s = true := fun w hw => h w (List.mem_cons_of_mem _ hw)

theorem i_X0 : ∀ w ∈ u_ws RX0 TX0 4, w ∈ gw_all := gw_r _ [173, 175, 177, 179] (by decide +kernel) (by decide +kernel)
theorem i_X1 : ∀ w ∈ u_ws RX1 TX1 11, w ∈ gw_all := gw_r _ [218, 220, 222, 224, 226, 228, 230, 232, 234, 236, 238] (by decide +kernel) (by decide +kernel)
theorem i_X2 : ∀ w ∈ u_ws RX2 TX2 6, w ∈ gw_all := gw_r _ [108, 110, 112, 114, 116, 118] (by decide +kernel) (by decide +kernel)
theorem i_X3 : ∀ w ∈ u_ws RX3 TX3 6, w ∈ gw_all := gw_r _ [253, 255, 257, 259, 261, 263] (by decide +kernel) (by decide +kernel)
theorem i_X4 : ∀ w ∈ u_ws RX4 TX4 9, w ∈ gw_all := gw_r _ [138, 140, 142, 144, 146, 148, 150, 152, 154] (by decide +kernel) (by decide +kernel)
theorem i_X5 : ∀ w ∈ u_ws RX5 TX5 6, w ∈ gw_all := gw_r _ [194, 196, 198, 200, 202, 204] (by decide +kernel) (by decide +kernel)
theorem i_X6 : ∀ w ∈ u_ws RX6 TX6 7, w ∈ gw_all := gw_r _ [273, 275, 277, 279, 281, 283, 285] (by decide +kernel) (by decide +kernel)
theorem i_X7 : ∀ w ∈ u_ws RX7 TX7 39, w ∈ gw_all := gw_r _ [837, 839, 841, 843, 845, 847, 849, 851, 853, 855, 857, 859, 861, 863, 865, 867, 869, 871, 873, 875, 877, 879, 881, 883, 885, 887, 889, 891, 893, 895, 897, 899, 901, 903, 905, 907, 909, 911, 913] (by decide +kernel) (by decide +kernel)
theorem df_X0 : ∀ j, j < 4 → defaultValue (tyX0 j) = vp_V [.null, .null, .null, .int 0] j := fun j hj => by
  match j, hj with
  | 0, _ => rfl
  | 1, _ => rfl
  | 2, _ => rfl
  | 3, _ => rfl
  | n + 4, h => exact absurd h (by omega)
theorem df_X1 : ∀ j, j < 11 → defaultValue (tyX1 j) = vp_V [.null, .null, .null, .null, .null, .null, .int 0, .int 0, .int 0, .int 0, .int 0] j := fun j hj => by
  match j, hj with
  | 0, _ => rfl
  | 1, _ => rfl
  | 2, _ => rfl
  | 3, _ => rfl
  | 4, _ => rfl
  | 5, _ => rfl
  | 6, _ => rfl
  | 7, _ => rfl
  | 8, _ => rfl
  | 9, _ => rfl
  | 10, _ => rfl
  | n + 11, h => exact absurd h (by omega)
theorem df_X2 : ∀ j, j < 6 → defaultValue (tyX2 j) = vp_V [.null, .null, .null, .null, .null, .int 0] j := fun j hj => by
  match j, hj with
  | 0, _ => rfl
  | 1, _ => rfl
  | 2, _ => rfl
  | 3, _ => rfl
  | 4, _ => rfl
  | 5, _ => rfl
  | n + 6, h => exact absurd h (by omega)
theorem df_X3 : ∀ j, j < 6 → defaultValue (tyX3 j) = vp_V [.null, .null, .null, .int 0, .int 0, .int 0] j := fun j hj => by
  match j, hj with
  | 0, _ => rfl
  | 1, _ => rfl
  | 2, _ => rfl
  | 3, _ => rfl
  | 4, _ => rfl
  | 5, _ => rfl
  | n + 6, h => exact absurd h (by omega)
theorem df_X4 : ∀ j, j < 9 → defaultValue (tyX4 j) = vp_V [.null, .null, .null, .null, .int 0, .int 0, .int 0, .int 0, .int 0] j := fun j hj => by
  match j, hj with
  | 0, _ => rfl
  | 1, _ => rfl
  | 2, _ => rfl
  | 3, _ => rfl
  | 4, _ => rfl
  | 5, _ => rfl
  | 6, _ => rfl
  | 7, _ => rfl
  | 8, _ => rfl
  | n + 9, h => exact absurd h (by omega)
theorem df_X5 : ∀ j, j < 6 → defaultValue (tyX5 j) = vp_V [.null, .null, .null, .null, .int 0, .int 0] j := fun j hj => by
  match j, hj with
  | 0, _ => rfl
  | 1, _ => rfl
  | 2, _ => rfl
  | 3, _ => rfl
  | 4, _ => rfl
  | 5, _ => rfl
  | n + 6, h => exact absurd h (by omega)
theorem df_X6 : ∀ j, j < 7 → defaultValue (tyX6 j) = vp_V [.null, .int 0, .int 0, .null, .null, .null, .null] j := fun j hj => by
  match j, hj with
  | 0, _ => rfl
  | 1, _ => rfl
  | 2, _ => rfl
  | 3, _ => rfl
  | 4, _ => rfl
  | 5, _ => rfl
  | 6, _ => rfl
  | n + 7, h => exact absurd h (by omega)
theorem df_X7 : ∀ j, j < 39 → defaultValue (tyX7 j) = vp_V [.int 0, .null, .int 0, .int 0, .int 0, .int 0, .int 0, .int 0, .int 0, .null, .null, .null, .int 0, .null, .null, .null, .int 0, .null, .null, .null, .int 0, .int 0, .null, .null, .null, .int 0, .int 0, .null, .int 0, .null, .null, .null, .int 0, .int 0, .null, .null, .null, .int 0, .null] j := fun j hj => by
  match j, hj with
  | 0, _ => rfl
  | 1, _ => rfl
  | 2, _ => rfl
  | 3, _ => rfl
  | 4, _ => rfl
  | 5, _ => rfl
  | 6, _ => rfl
  | 7, _ => rfl
  | 8, _ => rfl
  | 9, _ => rfl
  | 10, _ => rfl
  | 11, _ => rfl
  | 12, _ => rfl
  | 13, _ => rfl
  | 14, _ => rfl
  | 15, _ => rfl
  | 16, _ => rfl
  | 17, _ => rfl
  | 18, _ => rfl
  | 19, _ => rfl
  | 20, _ => rfl
  | 21, _ => rfl
  | 22, _ => rfl
  | 23, _ => rfl
  | 24, _ => rfl
  | 25, _ => rfl
  | 26, _ => rfl
  | 27, _ => rfl
  | 28, _ => rfl
  | 29, _ => rfl
  | 30, _ => rfl
  | 31, _ => rfl
  | 32, _ => rfl
  | 33, _ => rfl
  | 34, _ => rfl
  | 35, _ => rfl
  | 36, _ => rfl
  | 37, _ => rfl
  | 38, _ => rfl
  | n + 39, h => exact absurd h (by omega)
theorem k_0 : Cond.code yX0_init cX0_init 2 none ∈ gw_all := gw_m 167 (by decide +kernel) rfl
theorem k_1 : Cond.code yX5_init cX5_init 3 none ∈ gw_all := gw_m 186 (by decide +kernel) rfl
theorem k_2 : Cond.code yX1_init cX1_init 2 none ∈ gw_all := gw_m 161 (by decide +kernel) rfl
theorem k_3 : Cond.code yX2_init cX2_init 1 none ∈ gw_all := gw_m 100 (by decide +kernel) rfl
theorem k_4 : Cond.code yX3_init cX3_init 2 none ∈ gw_all := gw_m 245 (by decide +kernel) rfl
theorem k_5 : Cond.code yX4_init cX4_init 3 none ∈ gw_all := gw_m 127 (by decide +kernel) rfl
theorem k_6 : Cond.code yX6_init cX6_init 1 none ∈ gw_all := gw_m 92 (by decide +kernel) rfl
theorem k_7 : Cond.code yX7_init cX7_init 1 none ∈ gw_all := gw_m 795 (by decide +kernel) rfl
theorem k_8 : Cond.methodLink RX0 3 objectInit ∈ gw_all := gw_m 168 (by decide +kernel) rfl
theorem k_9 : Cond.instanceMethod objectInit ∈ gw_all := gw_m 94 (by decide +kernel) rfl
theorem k_10 : Cond.code objectInit ⟨#[0xb1]⟩ 1 none ∈ gw_all := gw_m 95 (by decide +kernel) rfl
theorem k_11 : Cond.arrayClass .int ∈ gw_all := gw_m 121 (by decide +kernel) rfl
theorem k_12 : Cond.fieldLink RX0 9 "TypeBench$Context" "row" "[I" ∈ gw_all := gw_m 170 (by decide +kernel) rfl
theorem k_13 : Cond.fieldLink RX0 15 "TypeBench$Context" "places" "[I" ∈ gw_all := gw_m 171 (by decide +kernel) rfl
theorem k_14 : Cond.fieldLink RX0 18 "TypeBench$Context" "length" "I" ∈ gw_all := gw_m 172 (by decide +kernel) rfl
theorem k_15 : Cond.fieldLink RX0 22 "TypeBench$Context" "nodes" "LTypeBench$Nodes;" ∈ gw_all := gw_m 169 (by decide +kernel) rfl
theorem k_16 : Cond.methodLink RX5 3 objectInit ∈ gw_all := gw_m 187 (by decide +kernel) rfl
theorem k_17 : Cond.fieldLink RX5 9 "TypeBench$Search" "waiting" "[I" ∈ gw_all := gw_m 190 (by decide +kernel) rfl
theorem k_18 : Cond.fieldLink RX5 15 "TypeBench$Search" "visits" "[I" ∈ gw_all := gw_m 191 (by decide +kernel) rfl
theorem k_19 : Cond.fieldLink RX5 18 "TypeBench$Search" "count" "I" ∈ gw_all := gw_m 192 (by decide +kernel) rfl
theorem k_20 : Cond.fieldLink RX5 22 "TypeBench$Search" "visit" "I" ∈ gw_all := gw_m 193 (by decide +kernel) rfl
theorem k_21 : Cond.fieldLink RX5 25 "TypeBench$Search" "nodes" "LTypeBench$Nodes;" ∈ gw_all := gw_m 188 (by decide +kernel) rfl
theorem k_22 : Cond.fieldLink RX5 29 "TypeBench$Search" "context" "LTypeBench$Context;" ∈ gw_all := gw_m 189 (by decide +kernel) rfl
theorem k_23 : Cond.methodLink RX1 3 objectInit ∈ gw_all := gw_m 162 (by decide +kernel) rfl
theorem k_24 : Cond.fieldLink RX1 9 "TypeBench$Judge" "tasks" "[I" ∈ gw_all := gw_m 210 (by decide +kernel) rfl
theorem k_25 : Cond.fieldLink RX1 15 "TypeBench$Judge" "firsts" "[I" ∈ gw_all := gw_m 211 (by decide +kernel) rfl
theorem k_26 : Cond.fieldLink RX1 18 "TypeBench$Judge" "seconds" "[I" ∈ gw_all := gw_m 212 (by decide +kernel) rfl
theorem k_27 : Cond.fieldLink RX1 21 "TypeBench$Judge" "waiting" "I" ∈ gw_all := gw_m 213 (by decide +kernel) rfl
theorem k_28 : Cond.fieldLink RX1 25 "TypeBench$Judge" "failed" "Z" ∈ gw_all := gw_m 214 (by decide +kernel) rfl
theorem k_29 : Cond.fieldLink RX1 29 "TypeBench$Judge" "found" "I" ∈ gw_all := gw_m 215 (by decide +kernel) rfl
theorem k_30 : Cond.fieldLink RX1 32 "TypeBench$Judge" "made" "I" ∈ gw_all := gw_m 216 (by decide +kernel) rfl
theorem k_31 : Cond.fieldLink RX1 35 "TypeBench$Judge" "solvedOnes" "I" ∈ gw_all := gw_m 217 (by decide +kernel) rfl
theorem k_32 : Cond.fieldLink RX1 38 "TypeBench$Judge" "nodes" "LTypeBench$Nodes;" ∈ gw_all := gw_m 207 (by decide +kernel) rfl
theorem k_33 : Cond.classLink RX1 42 RX0 ∈ gw_all := gw_m 163 (by decide +kernel) rfl
theorem k_34 : Cond.instantiable RX0 4 ∈ gw_all := gw_m 164 (by decide +kernel) rfl
theorem k_35 : Cond.initialized RX0 ∈ gw_all := gw_m 76 (by decide +kernel) rfl
theorem k_36 : Cond.methodLink RX1 44 yX0_init ∈ gw_all := gw_m 165 (by decide +kernel) rfl
theorem k_37 : Cond.instanceMethod yX0_init ∈ gw_all := gw_m 166 (by decide +kernel) rfl
theorem k_38 : Cond.fieldLink RX1 47 "TypeBench$Judge" "context" "LTypeBench$Context;" ∈ gw_all := gw_m 208 (by decide +kernel) rfl
theorem k_39 : Cond.classLink RX1 51 RX5 ∈ gw_all := gw_m 182 (by decide +kernel) rfl
theorem k_40 : Cond.instantiable RX5 6 ∈ gw_all := gw_m 183 (by decide +kernel) rfl
theorem k_41 : Cond.initialized RX5 ∈ gw_all := gw_m 77 (by decide +kernel) rfl
theorem k_42 : Cond.methodLink RX1 53 yX5_init ∈ gw_all := gw_m 184 (by decide +kernel) rfl
theorem k_43 : Cond.instanceMethod yX5_init ∈ gw_all := gw_m 185 (by decide +kernel) rfl
theorem k_44 : Cond.fieldLink RX1 56 "TypeBench$Judge" "search" "LTypeBench$Search;" ∈ gw_all := gw_m 209 (by decide +kernel) rfl
theorem k_45 : Cond.methodLink RX2 3 objectInit ∈ gw_all := gw_m 101 (by decide +kernel) rfl
theorem k_46 : Cond.fieldLink RX2 9 "TypeBench$Nodes" "kinds" "[I" ∈ gw_all := gw_m 102 (by decide +kernel) rfl
theorem k_47 : Cond.fieldLink RX2 15 "TypeBench$Nodes" "lefts" "[I" ∈ gw_all := gw_m 103 (by decide +kernel) rfl
theorem k_48 : Cond.fieldLink RX2 18 "TypeBench$Nodes" "rights" "[I" ∈ gw_all := gw_m 104 (by decide +kernel) rfl
theorem k_49 : Cond.fieldLink RX2 21 "TypeBench$Nodes" "loose" "[I" ∈ gw_all := gw_m 105 (by decide +kernel) rfl
theorem k_50 : Cond.arrayClass .boolean ∈ gw_all := gw_m 122 (by decide +kernel) rfl
theorem k_51 : Cond.fieldLink RX2 24 "TypeBench$Nodes" "simple" "[Z" ∈ gw_all := gw_m 106 (by decide +kernel) rfl
theorem k_52 : Cond.fieldLink RX2 28 "TypeBench$Nodes" "used" "I" ∈ gw_all := gw_m 107 (by decide +kernel) rfl
theorem k_53 : Cond.methodLink RX3 3 objectInit ∈ gw_all := gw_m 246 (by decide +kernel) rfl
theorem k_54 : Cond.fieldLink RX3 9 "TypeBench$Printer" "lengths" "[I" ∈ gw_all := gw_m 248 (by decide +kernel) rfl
theorem k_55 : Cond.fieldLink RX3 15 "TypeBench$Printer" "path" "[I" ∈ gw_all := gw_m 249 (by decide +kernel) rfl
theorem k_56 : Cond.fieldLink RX3 18 "TypeBench$Printer" "depth" "I" ∈ gw_all := gw_m 250 (by decide +kernel) rfl
theorem k_57 : Cond.fieldLink RX3 22 "TypeBench$Printer" "root" "I" ∈ gw_all := gw_m 251 (by decide +kernel) rfl
theorem k_58 : Cond.fieldLink RX3 25 "TypeBench$Printer" "names" "I" ∈ gw_all := gw_m 252 (by decide +kernel) rfl
theorem k_59 : Cond.fieldLink RX3 28 "TypeBench$Printer" "nodes" "LTypeBench$Nodes;" ∈ gw_all := gw_m 247 (by decide +kernel) rfl
theorem k_60 : Cond.methodLink RX4 3 objectInit ∈ gw_all := gw_m 128 (by decide +kernel) rfl
theorem k_61 : Cond.fieldLink RX4 9 "TypeBench$Reader" "termBinders" "[I" ∈ gw_all := gw_m 131 (by decide +kernel) rfl
theorem k_62 : Cond.fieldLink RX4 15 "TypeBench$Reader" "typeBinders" "[I" ∈ gw_all := gw_m 132 (by decide +kernel) rfl
theorem k_63 : Cond.fieldLink RX4 18 "TypeBench$Reader" "openTypeBinders" "I" ∈ gw_all := gw_m 133 (by decide +kernel) rfl
theorem k_64 : Cond.fieldLink RX4 22 "TypeBench$Reader" "length" "I" ∈ gw_all := gw_m 134 (by decide +kernel) rfl
theorem k_65 : Cond.fieldLink RX4 25 "TypeBench$Reader" "next" "I" ∈ gw_all := gw_m 135 (by decide +kernel) rfl
theorem k_66 : Cond.fieldLink RX4 28 "TypeBench$Reader" "brackets" "I" ∈ gw_all := gw_m 136 (by decide +kernel) rfl
theorem k_67 : Cond.fieldLink RX4 31 "TypeBench$Reader" "wrong" "I" ∈ gw_all := gw_m 137 (by decide +kernel) rfl
theorem k_68 : Cond.fieldLink RX4 34 "TypeBench$Reader" "nodes" "LTypeBench$Nodes;" ∈ gw_all := gw_m 129 (by decide +kernel) rfl
theorem k_69 : Cond.fieldLink RX4 38 "TypeBench$Reader" "text" "[I" ∈ gw_all := gw_m 130 (by decide +kernel) rfl
theorem k_70 : Cond.methodLink RX6 1 objectInit ∈ gw_all := gw_m 93 (by decide +kernel) rfl
theorem k_71 : Cond.fieldLink RX6 9 "TypeBench" "tape" "[I" ∈ gw_all := gw_m 266 (by decide +kernel) rfl
theorem k_72 : Cond.fieldLink RX6 13 "TypeBench" "fed" "I" ∈ gw_all := gw_m 267 (by decide +kernel) rfl
theorem k_73 : Cond.fieldLink RX6 17 "TypeBench" "wrongAt" "I" ∈ gw_all := gw_m 268 (by decide +kernel) rfl
theorem k_74 : Cond.classLink RX6 20 RX2 ∈ gw_all := gw_m 96 (by decide +kernel) rfl
theorem k_75 : Cond.instantiable RX2 6 ∈ gw_all := gw_m 97 (by decide +kernel) rfl
theorem k_76 : Cond.initialized RX2 ∈ gw_all := gw_m 73 (by decide +kernel) rfl
theorem k_77 : Cond.instanceMethod yX2_init ∈ gw_all := gw_m 99 (by decide +kernel) rfl
theorem k_78 : Cond.fieldLink RX6 23 "TypeBench" "nodes" "LTypeBench$Nodes;" ∈ gw_all := gw_m 269 (by decide +kernel) rfl
theorem k_79 : Cond.classLink RX6 27 RX4 ∈ gw_all := gw_m 123 (by decide +kernel) rfl
theorem k_80 : Cond.instantiable RX4 9 ∈ gw_all := gw_m 124 (by decide +kernel) rfl
theorem k_81 : Cond.initialized RX4 ∈ gw_all := gw_m 74 (by decide +kernel) rfl
theorem k_82 : Cond.methodLink RX6 29 yX4_init ∈ gw_all := gw_m 125 (by decide +kernel) rfl
theorem k_83 : Cond.instanceMethod yX4_init ∈ gw_all := gw_m 126 (by decide +kernel) rfl
theorem k_84 : Cond.fieldLink RX6 32 "TypeBench" "reader" "LTypeBench$Reader;" ∈ gw_all := gw_m 270 (by decide +kernel) rfl
theorem k_85 : Cond.classLink RX6 36 RX1 ∈ gw_all := gw_m 157 (by decide +kernel) rfl
theorem k_86 : Cond.instantiable RX1 11 ∈ gw_all := gw_m 158 (by decide +kernel) rfl
theorem k_87 : Cond.initialized RX1 ∈ gw_all := gw_m 75 (by decide +kernel) rfl
theorem k_88 : Cond.methodLink RX6 38 yX1_init ∈ gw_all := gw_m 159 (by decide +kernel) rfl
theorem k_89 : Cond.instanceMethod yX1_init ∈ gw_all := gw_m 160 (by decide +kernel) rfl
theorem k_90 : Cond.fieldLink RX6 41 "TypeBench" "judge" "LTypeBench$Judge;" ∈ gw_all := gw_m 271 (by decide +kernel) rfl
theorem k_91 : Cond.classLink RX6 45 RX3 ∈ gw_all := gw_m 241 (by decide +kernel) rfl
theorem k_92 : Cond.instantiable RX3 6 ∈ gw_all := gw_m 242 (by decide +kernel) rfl
theorem k_93 : Cond.initialized RX3 ∈ gw_all := gw_m 78 (by decide +kernel) rfl
theorem k_94 : Cond.methodLink RX6 47 yX3_init ∈ gw_all := gw_m 243 (by decide +kernel) rfl
theorem k_95 : Cond.instanceMethod yX3_init ∈ gw_all := gw_m 244 (by decide +kernel) rfl
theorem k_96 : Cond.fieldLink RX6 48 "TypeBench" "printer" "LTypeBench$Printer;" ∈ gw_all := gw_m 272 (by decide +kernel) rfl
theorem k_97 : Cond.methodLink RX7 1 objectInit ∈ gw_all := gw_m 796 (by decide +kernel) rfl
theorem k_98 : Cond.fieldLink RX7 7 "TypeBenchModel" "tape" "[I" ∈ gw_all := gw_m 799 (by decide +kernel) rfl
theorem k_99 : Cond.fieldLink RX7 13 "TypeBenchModel" "place" "I" ∈ gw_all := gw_m 804 (by decide +kernel) rfl
theorem k_100 : Cond.constant RX7 17 (200000) ∈ gw_all := gw_m 797 (by decide +kernel) rfl
theorem k_101 : Cond.fieldLink RX7 18 "TypeBenchModel" "typeKind" "[I" ∈ gw_all := gw_m 807 (by decide +kernel) rfl
theorem k_102 : Cond.fieldLink RX7 21 "TypeBenchModel" "typeFirst" "[I" ∈ gw_all := gw_m 808 (by decide +kernel) rfl
theorem k_103 : Cond.fieldLink RX7 24 "TypeBenchModel" "typeSecond" "[I" ∈ gw_all := gw_m 809 (by decide +kernel) rfl
theorem k_104 : Cond.fieldLink RX7 27 "TypeBenchModel" "termKind" "[I" ∈ gw_all := gw_m 811 (by decide +kernel) rfl
theorem k_105 : Cond.fieldLink RX7 30 "TypeBenchModel" "termFirst" "[I" ∈ gw_all := gw_m 812 (by decide +kernel) rfl
theorem k_106 : Cond.fieldLink RX7 33 "TypeBenchModel" "termSecond" "[I" ∈ gw_all := gw_m 813 (by decide +kernel) rfl
theorem k_107 : Cond.fieldLink RX7 36 "TypeBenchModel" "frame" "[I" ∈ gw_all := gw_m 815 (by decide +kernel) rfl
theorem k_108 : Cond.fieldLink RX7 39 "TypeBenchModel" "frameOf" "[I" ∈ gw_all := gw_m 816 (by decide +kernel) rfl
theorem k_109 : Cond.fieldLink RX7 42 "TypeBenchModel" "frameLetter" "[I" ∈ gw_all := gw_m 817 (by decide +kernel) rfl
theorem k_110 : Cond.fieldLink RX7 45 "TypeBenchModel" "entry" "[I" ∈ gw_all := gw_m 820 (by decide +kernel) rfl
theorem k_111 : Cond.fieldLink RX7 48 "TypeBenchModel" "entryOf" "[I" ∈ gw_all := gw_m 821 (by decide +kernel) rfl
theorem k_112 : Cond.fieldLink RX7 51 "TypeBenchModel" "entryType" "[I" ∈ gw_all := gw_m 822 (by decide +kernel) rfl
theorem k_113 : Cond.fieldLink RX7 54 "TypeBenchModel" "solution" "[I" ∈ gw_all := gw_m 825 (by decide +kernel) rfl
theorem k_114 : Cond.fieldLink RX7 57 "TypeBenchModel" "act" "[I" ∈ gw_all := gw_m 827 (by decide +kernel) rfl
theorem k_115 : Cond.fieldLink RX7 60 "TypeBenchModel" "first" "[I" ∈ gw_all := gw_m 828 (by decide +kernel) rfl
theorem k_116 : Cond.fieldLink RX7 63 "TypeBenchModel" "second" "[I" ∈ gw_all := gw_m 829 (by decide +kernel) rfl
theorem k_117 : Cond.fieldLink RX7 66 "TypeBenchModel" "walk" "[I" ∈ gw_all := gw_m 832 (by decide +kernel) rfl
theorem k_118 : Cond.fieldLink RX7 69 "TypeBenchModel" "copy" "[I" ∈ gw_all := gw_m 833 (by decide +kernel) rfl
theorem k_119 : Cond.fieldLink RX7 72 "TypeBenchModel" "out" "[I" ∈ gw_all := gw_m 834 (by decide +kernel) rfl
theorem k_120 : Cond.fieldLink RX7 75 "TypeBenchModel" "named" "[I" ∈ gw_all := gw_m 836 (by decide +kernel) rfl
theorem k_121 : Cond.code yJ7_fill_53178 cJ7_fill_53178 4 none ∈ gw_all := gw_m 458 (by decide +kernel) rfl
theorem k_122 : Cond.code yX4_start cX4_start 2 none ∈ gw_all := gw_m 452 (by decide +kernel) rfl
theorem k_123 : Cond.code yX2_make cX2_make 5 (some .int) ∈ gw_all := gw_m 436 (by decide +kernel) rfl
theorem k_124 : Cond.code yX2_clear cX2_clear 1 none ∈ gw_all := gw_m 432 (by decide +kernel) rfl
theorem k_125 : Cond.code yX0_clear cX0_clear 1 none ∈ gw_all := gw_m 444 (by decide +kernel) rfl
theorem k_126 : Cond.code yX1_clear cX1_clear 1 none ∈ gw_all := gw_m 440 (by decide +kernel) rfl
theorem k_127 : Cond.code yX3_clear cX3_clear 1 none ∈ gw_all := gw_m 448 (by decide +kernel) rfl
theorem k_128 : Cond.code yX6_startText cX6_startText 1 none ∈ gw_all := gw_m 428 (by decide +kernel) rfl
theorem k_129 : Cond.code yX4_peek cX4_peek 1 (some .int) ∈ gw_all := gw_m 474 (by decide +kernel) rfl
theorem k_130 : Cond.code yX4_refuse cX4_refuse 1 (some .int) ∈ gw_all := gw_m 478 (by decide +kernel) rfl
theorem k_131 : Cond.code yX4_isLetter cX4_isLetter 1 (some .boolean) ∈ gw_all := gw_m 490 (by decide +kernel) rfl
theorem k_132 : Cond.code yX4_termAtom cX4_termAtom 3 (some .int) ∈ gw_all := gw_m 470 (by decide +kernel) rfl
theorem k_133 : Cond.code yX4_term cX4_term 5 (some .int) ∈ gw_all := gw_m 466 (by decide +kernel) rfl
theorem k_134 : Cond.code yX4_wholeTerm cX4_wholeTerm 2 (some .int) ∈ gw_all := gw_m 462 (by decide +kernel) rfl
theorem k_135 : Cond.code yX4_wrongAt cX4_wrongAt 1 (some .int) ∈ gw_all := gw_m 545 (by decide +kernel) rfl
theorem k_136 : Cond.code yX4_typeAtom cX4_typeAtom 3 (some .int) ∈ gw_all := gw_m 506 (by decide +kernel) rfl
theorem k_137 : Cond.code yX4_type cX4_type 3 (some .int) ∈ gw_all := gw_m 502 (by decide +kernel) rfl
theorem k_138 : Cond.code yX4_typeBeforeSign cX4_typeBeforeSign 2 (some .int) ∈ gw_all := gw_m 748 (by decide +kernel) rfl
theorem k_139 : Cond.code yX4_typeBehindSign cX4_typeBehindSign 2 (some .int) ∈ gw_all := gw_m 752 (by decide +kernel) rfl
theorem k_140 : Cond.methodLink RX4 41 Lib.Math.min.name ∈ gw_all := gw_m 453 (by decide +kernel) rfl
theorem k_141 : Cond.static Lib.Math.min.name ∈ gw_all := gw_m 454 (by decide +kernel) rfl
theorem k_142 : Cond.initialized "java/lang/Math" ∈ gw_all := gw_m 85 (by decide +kernel) rfl
theorem k_143 : Cond.code Lib.Math.min.name Lib.Math.min.code 2 (some .int) ∈ gw_all := gw_m 455 (by decide +kernel) rfl
theorem k_144 : Cond.methodLink RX4 47 yJ7_fill_53178 ∈ gw_all := gw_m 456 (by decide +kernel) rfl
theorem k_145 : Cond.static yJ7_fill_53178 ∈ gw_all := gw_m 457 (by decide +kernel) rfl
theorem k_146 : Cond.initialized RJ7 ∈ gw_all := gw_m 86 (by decide +kernel) rfl
theorem k_147 : Cond.methodLink RX2 32 yX2_make ∈ gw_all := gw_m 433 (by decide +kernel) rfl
theorem k_148 : Cond.instanceMethod yX2_make ∈ gw_all := gw_m 434 (by decide +kernel) rfl
theorem k_149 : Cond.selects RX2 yX2_make yX2_make ∈ gw_all := gw_m 435 (by decide +kernel) rfl
theorem k_150 : Cond.methodLink RX1 60 yX0_clear ∈ gw_all := gw_m 441 (by decide +kernel) rfl
theorem k_151 : Cond.instanceMethod yX0_clear ∈ gw_all := gw_m 442 (by decide +kernel) rfl
theorem k_152 : Cond.selects RX0 yX0_clear yX0_clear ∈ gw_all := gw_m 443 (by decide +kernel) rfl
theorem k_153 : Cond.methodLink RX6 121 yX2_clear ∈ gw_all := gw_m 429 (by decide +kernel) rfl
theorem k_154 : Cond.instanceMethod yX2_clear ∈ gw_all := gw_m 430 (by decide +kernel) rfl
theorem k_155 : Cond.selects RX2 yX2_clear yX2_clear ∈ gw_all := gw_m 431 (by decide +kernel) rfl
theorem k_156 : Cond.methodLink RX6 124 yX1_clear ∈ gw_all := gw_m 437 (by decide +kernel) rfl
theorem k_157 : Cond.instanceMethod yX1_clear ∈ gw_all := gw_m 438 (by decide +kernel) rfl
theorem k_158 : Cond.selects RX1 yX1_clear yX1_clear ∈ gw_all := gw_m 439 (by decide +kernel) rfl
theorem k_159 : Cond.methodLink RX6 125 yX3_clear ∈ gw_all := gw_m 445 (by decide +kernel) rfl
theorem k_160 : Cond.instanceMethod yX3_clear ∈ gw_all := gw_m 446 (by decide +kernel) rfl
theorem k_161 : Cond.selects RX3 yX3_clear yX3_clear ∈ gw_all := gw_m 447 (by decide +kernel) rfl
theorem k_162 : Cond.methodLink RX6 126 yX4_start ∈ gw_all := gw_m 449 (by decide +kernel) rfl
theorem k_163 : Cond.instanceMethod yX4_start ∈ gw_all := gw_m 450 (by decide +kernel) rfl
theorem k_164 : Cond.selects RX4 yX4_start yX4_start ∈ gw_all := gw_m 451 (by decide +kernel) rfl
theorem k_165 : Cond.methodLink RX4 57 yX4_peek ∈ gw_all := gw_m 471 (by decide +kernel) rfl
theorem k_166 : Cond.instanceMethod yX4_peek ∈ gw_all := gw_m 473 (by decide +kernel) rfl
theorem k_167 : Cond.selects RX4 yX4_peek yX4_peek ∈ gw_all := gw_m 5 (by decide +kernel) rfl
theorem k_168 : Cond.methodLink RX4 71 yX4_isLetter ∈ gw_all := gw_m 488 (by decide +kernel) rfl
theorem k_169 : Cond.static yX4_isLetter ∈ gw_all := gw_m 489 (by decide +kernel) rfl
theorem k_170 : Cond.methodLink RX4 61 yX4_refuse ∈ gw_all := gw_m 475 (by decide +kernel) rfl
theorem k_171 : Cond.instanceMethod yX4_refuse ∈ gw_all := gw_m 477 (by decide +kernel) rfl
theorem k_172 : Cond.selects RX4 yX4_refuse yX4_refuse ∈ gw_all := gw_m 6 (by decide +kernel) rfl
theorem k_173 : Cond.methodLink RX4 74 yX4_termAtom ∈ gw_all := gw_m 467 (by decide +kernel) rfl
theorem k_174 : Cond.instanceMethod yX4_termAtom ∈ gw_all := gw_m 469 (by decide +kernel) rfl
theorem k_175 : Cond.selects RX4 yX4_termAtom yX4_termAtom ∈ gw_all := gw_m 4 (by decide +kernel) rfl
theorem k_176 : Cond.methodLink RX4 53 yX4_term ∈ gw_all := gw_m 463 (by decide +kernel) rfl
theorem k_177 : Cond.instanceMethod yX4_term ∈ gw_all := gw_m 465 (by decide +kernel) rfl
theorem k_178 : Cond.selects RX4 yX4_term yX4_term ∈ gw_all := gw_m 3 (by decide +kernel) rfl
theorem k_179 : Cond.methodLink RX4 98 yX4_typeAtom ∈ gw_all := gw_m 503 (by decide +kernel) rfl
theorem k_180 : Cond.instanceMethod yX4_typeAtom ∈ gw_all := gw_m 505 (by decide +kernel) rfl
theorem k_181 : Cond.selects RX4 yX4_typeAtom yX4_typeAtom ∈ gw_all := gw_m 12 (by decide +kernel) rfl
theorem k_182 : Cond.methodLink RX4 64 yX4_type ∈ gw_all := gw_m 499 (by decide +kernel) rfl
theorem k_183 : Cond.instanceMethod yX4_type ∈ gw_all := gw_m 501 (by decide +kernel) rfl
theorem k_184 : Cond.selects RX4 yX4_type yX4_type ∈ gw_all := gw_m 11 (by decide +kernel) rfl
theorem k_185 : Cond.code yX6_place cX6_place 1 (some .int) ∈ gw_all := gw_m 291 (by decide +kernel) rfl
theorem k_186 : Cond.code yX2_has cX2_has 2 (some .boolean) ∈ gw_all := gw_m 307 (by decide +kernel) rfl
theorem k_187 : Cond.code yX3_lengthOf cX3_lengthOf 2 (some .int) ∈ gw_all := gw_m 303 (by decide +kernel) rfl
theorem k_188 : Cond.code yX3_length cX3_length 1 (some .int) ∈ gw_all := gw_m 299 (by decide +kernel) rfl
theorem k_189 : Cond.code yX6_size cX6_size 1 (some .int) ∈ gw_all := gw_m 295 (by decide +kernel) rfl
theorem k_190 : Cond.code yX1_madeUnknowns cX1_madeUnknowns 1 (some .int) ∈ gw_all := gw_m 315 (by decide +kernel) rfl
theorem k_191 : Cond.code yX6_unknowns cX6_unknowns 1 (some .int) ∈ gw_all := gw_m 311 (by decide +kernel) rfl
theorem k_192 : Cond.code yX1_solvedUnknowns cX1_solvedUnknowns 1 (some .int) ∈ gw_all := gw_m 323 (by decide +kernel) rfl
theorem k_193 : Cond.code yX6_solved cX6_solved 1 (some .int) ∈ gw_all := gw_m 319 (by decide +kernel) rfl
theorem k_194 : Cond.methodLink RX3 63 yX2_has ∈ gw_all := gw_m 304 (by decide +kernel) rfl
theorem k_195 : Cond.instanceMethod yX2_has ∈ gw_all := gw_m 305 (by decide +kernel) rfl
theorem k_196 : Cond.selects RX2 yX2_has yX2_has ∈ gw_all := gw_m 306 (by decide +kernel) rfl
theorem k_197 : Cond.methodLink RX3 51 yX3_lengthOf ∈ gw_all := gw_m 300 (by decide +kernel) rfl
theorem k_198 : Cond.instanceMethod yX3_lengthOf ∈ gw_all := gw_m 302 (by decide +kernel) rfl
theorem k_199 : Cond.selects RX3 yX3_lengthOf yX3_lengthOf ∈ gw_all := gw_m 0 (by decide +kernel) rfl
theorem k_200 : Cond.methodLink RX6 103 yX3_length ∈ gw_all := gw_m 296 (by decide +kernel) rfl
theorem k_201 : Cond.instanceMethod yX3_length ∈ gw_all := gw_m 297 (by decide +kernel) rfl
theorem k_202 : Cond.selects RX3 yX3_length yX3_length ∈ gw_all := gw_m 298 (by decide +kernel) rfl
theorem k_203 : Cond.methodLink RX6 115 yX1_madeUnknowns ∈ gw_all := gw_m 312 (by decide +kernel) rfl
theorem k_204 : Cond.instanceMethod yX1_madeUnknowns ∈ gw_all := gw_m 313 (by decide +kernel) rfl
theorem k_205 : Cond.selects RX1 yX1_madeUnknowns yX1_madeUnknowns ∈ gw_all := gw_m 314 (by decide +kernel) rfl
theorem k_206 : Cond.methodLink RX6 118 yX1_solvedUnknowns ∈ gw_all := gw_m 320 (by decide +kernel) rfl
theorem k_207 : Cond.instanceMethod yX1_solvedUnknowns ∈ gw_all := gw_m 321 (by decide +kernel) rfl
theorem k_208 : Cond.selects RX1 yX1_solvedUnknowns yX1_solvedUnknowns ∈ gw_all := gw_m 322 (by decide +kernel) rfl
theorem g_yX0_init : GoodIn gw_all (wd yX0_init cX0_init 2 none) := gw_1 k_0
theorem g_yX5_init : GoodIn gw_all (wd yX5_init cX5_init 3 none) := gw_1 k_1
theorem g_yX1_init : GoodIn gw_all (wd yX1_init cX1_init 2 none) := gw_1 k_2
theorem g_yX2_init : GoodIn gw_all (wd yX2_init cX2_init 1 none) := gw_1 k_3
theorem g_yX3_init : GoodIn gw_all (wd yX3_init cX3_init 2 none) := gw_1 k_4
theorem g_yX4_init : GoodIn gw_all (wd yX4_init cX4_init 3 none) := gw_1 k_5
theorem g_yX6_init : GoodIn gw_all (wd yX6_init cX6_init 1 none) := gw_1 k_6
theorem g_yX7_init : GoodIn gw_all (wd yX7_init cX7_init 1 none) := gw_1 k_7
theorem g_yJ7_fill_53178 : GoodIn gw_all (wd yJ7_fill_53178 cJ7_fill_53178 4 none) := gw_1 k_121
theorem g_yX4_start : GoodIn gw_all (wd yX4_start cX4_start 2 none) := gw_1 k_122
theorem g_yX2_make : GoodIn gw_all (wd yX2_make cX2_make 5 (some .int)) := gw_1 k_123
theorem g_yX2_clear : GoodIn gw_all (wd yX2_clear cX2_clear 1 none) := gw_1 k_124
theorem g_yX0_clear : GoodIn gw_all (wd yX0_clear cX0_clear 1 none) := gw_1 k_125
theorem g_yX1_clear : GoodIn gw_all (wd yX1_clear cX1_clear 1 none) := gw_1 k_126
theorem g_yX3_clear : GoodIn gw_all (wd yX3_clear cX3_clear 1 none) := gw_1 k_127
theorem g_yX6_startText : GoodIn gw_all (wd yX6_startText cX6_startText 1 none) := gw_1 k_128
theorem g_yX4_peek : GoodIn gw_all (wd yX4_peek cX4_peek 1 (some .int)) := gw_1 k_129
theorem g_yX4_refuse : GoodIn gw_all (wd yX4_refuse cX4_refuse 1 (some .int)) := gw_1 k_130
theorem g_yX4_isLetter : GoodIn gw_all (wd yX4_isLetter cX4_isLetter 1 (some .boolean)) := gw_1 k_131
theorem g_yX4_termAtom : GoodIn gw_all (wd yX4_termAtom cX4_termAtom 3 (some .int)) := gw_1 k_132
theorem g_yX4_term : GoodIn gw_all (wd yX4_term cX4_term 5 (some .int)) := gw_1 k_133
theorem g_yX4_wholeTerm : GoodIn gw_all (wd yX4_wholeTerm cX4_wholeTerm 2 (some .int)) := gw_1 k_134
theorem g_yX4_wrongAt : GoodIn gw_all (wd yX4_wrongAt cX4_wrongAt 1 (some .int)) := gw_1 k_135
theorem g_yX4_typeAtom : GoodIn gw_all (wd yX4_typeAtom cX4_typeAtom 3 (some .int)) := gw_1 k_136
theorem g_yX4_type : GoodIn gw_all (wd yX4_type cX4_type 3 (some .int)) := gw_1 k_137
theorem g_yX4_typeBeforeSign : GoodIn gw_all (wd yX4_typeBeforeSign cX4_typeBeforeSign 2 (some .int)) := gw_1 k_138
theorem g_yX4_typeBehindSign : GoodIn gw_all (wd yX4_typeBehindSign cX4_typeBehindSign 2 (some .int)) := gw_1 k_139
theorem g_yX6_place : GoodIn gw_all (wd yX6_place cX6_place 1 (some .int)) := gw_1 k_185
theorem g_yX2_has : GoodIn gw_all (wd yX2_has cX2_has 2 (some .boolean)) := gw_1 k_186
theorem g_yX3_lengthOf : GoodIn gw_all (wd yX3_lengthOf cX3_lengthOf 2 (some .int)) := gw_1 k_187
theorem g_yX3_length : GoodIn gw_all (wd yX3_length cX3_length 1 (some .int)) := gw_1 k_188
theorem g_yX6_size : GoodIn gw_all (wd yX6_size cX6_size 1 (some .int)) := gw_1 k_189
theorem g_yX1_madeUnknowns : GoodIn gw_all (wd yX1_madeUnknowns cX1_madeUnknowns 1 (some .int)) := gw_1 k_190
theorem g_yX6_unknowns : GoodIn gw_all (wd yX6_unknowns cX6_unknowns 1 (some .int)) := gw_1 k_191
theorem g_yX1_solvedUnknowns : GoodIn gw_all (wd yX1_solvedUnknowns cX1_solvedUnknowns 1 (some .int)) := gw_1 k_192
theorem g_yX6_solved : GoodIn gw_all (wd yX6_solved cX6_solved 1 (some .int)) := gw_1 k_193
