def TB : List Cond := lw_tbl.filter goodWord
theorem tb_i {w : Cond} (h : w ∈ lw_tbl) (hg : goodWord w = true) : w ∈ TB := List.mem_filter.mpr ⟨h, hg⟩
theorem tb_l {w : Cond} (h : w ∈ TB) : w ∈ lw_tbl := (List.mem_filter.mp h).1
theorem tb_g {w : Cond} (h : w ∈ TB) : (w.onTables && w.keeps) = true ∨ ∃ ty, w = .arrayClass ty := good_of_word (List.mem_filter.mp h).2
theorem tps {q : MethodName × Nat} (h : q ∈ lw_privs) : Cond.selects q.1.cls q.1 q.1 ∈ lw_tbl := List.mem_append_left _ (List.mem_map.mpr ⟨q, h, rfl⟩)
theorem tc1 {w : Cond} (h : w ∈ tables_1_1) : w ∈ lw_tbl := List.mem_append_right _ (List.mem_append_left _ h)
theorem tc2 {w : Cond} (h : w ∈ tables_1_2) : w ∈ lw_tbl := List.mem_append_right _ (List.mem_append_right _ (List.mem_append_left _ h))
theorem tc3 {w : Cond} (h : w ∈ tables_1_3) : w ∈ lw_tbl := List.mem_append_right _ (List.mem_append_right _ (List.mem_append_right _ (List.mem_append_left _ h)))
theorem tc4 {w : Cond} (h : w ∈ tables_1_4) : w ∈ lw_tbl := List.mem_append_right _ (List.mem_append_right _ (List.mem_append_right _ (List.mem_append_right _ (List.mem_append_left _ h))))
theorem tc5 {w : Cond} (h : w ∈ tables_1_5) : w ∈ lw_tbl := List.mem_append_right _ (List.mem_append_right _ (List.mem_append_right _ (List.mem_append_right _ (List.mem_append_right _ (List.mem_append_left _ h)))))
theorem tc6 {w : Cond} (h : w ∈ tables_1_6) : w ∈ lw_tbl := List.mem_append_right _ (List.mem_append_right _ (List.mem_append_right _ (List.mem_append_right _ (List.mem_append_right _ (List.mem_append_right _ h)))))
theorem tb_good {c0 : Cond} {ws : List Cond} (h : ∀ w ∈ ws, w ∈ TB) : GoodIn (c0 :: TB) ws := fun w hw => ⟨List.mem_cons_of_mem _ (h w hw), tb_g (h w hw)⟩
theorem tb_goodl {ws : List Cond} (h : ∀ w ∈ ws, w ∈ TB) : GoodIn lw_tbl ws := fun w hw => ⟨tb_l (h w hw), tb_g (h w hw)⟩
theorem tb_c0 {e : Cond} (h : e ∈ TB) : ∀ w ∈ e :: TB, w ∈ TB := fun w hw => (List.mem_cons.mp hw).elim (fun q => q ▸ h) id
theorem tb_cc {x : Cond} {l : List Cond} (h : x ∈ TB) (hl : ∀ w ∈ l, w ∈ TB) : ∀ w ∈ x :: l, w ∈ TB := fun w hw => (List.mem_cons.mp hw).elim (fun q => q ▸ h) (hl w)
theorem tb_v0 {a b c d e : Cond} (h1 : a ∈ TB) (h2 : b ∈ TB) (h3 : c ∈ TB) (h4 : d ∈ TB) (h5 : e ∈ TB) : ∀ w ∈ ([a, b, c, d] : List Cond) ++ (e :: TB), w ∈ TB := tb_cc h1 (tb_cc h2 (tb_cc h3 (tb_cc h4 (tb_c0 h5))))
theorem tb_s0 {a b c e : Cond} (h1 : a ∈ TB) (h2 : b ∈ TB) (h3 : c ∈ TB) (h5 : e ∈ TB) : ∀ w ∈ ([a, b, c] : List Cond) ++ (e :: TB), w ∈ TB := tb_cc h1 (tb_cc h2 (tb_cc h3 (tb_c0 h5)))
set_option maxRecDepth 20000 in
theorem wd_0 : (.classLink RL 8 RX7 : Cond) ∈ TB := tb_i (tc1 (List.mem_of_getElem? (i := 21) rfl)) rfl
set_option maxRecDepth 20000 in
theorem wd_1 : (.instantiable RX7 6 : Cond) ∈ TB := tb_i (tc1 (List.mem_of_getElem? (i := 22) rfl)) rfl
set_option maxRecDepth 20000 in
theorem wd_2 : (.initialized RX7 : Cond) ∈ TB := tb_i (tc1 (List.mem_of_getElem? (i := 1) rfl)) rfl
set_option maxRecDepth 20000 in
theorem wd_3 : (.classLink RL 20 RX8 : Cond) ∈ TB := tb_i (tc4 (List.mem_of_getElem? (i := 90) rfl)) rfl
set_option maxRecDepth 20000 in
theorem wd_4 : (.instantiable RX8 46 : Cond) ∈ TB := tb_i (tc4 (List.mem_of_getElem? (i := 91) rfl)) rfl
set_option maxRecDepth 20000 in
theorem wd_5 : (.initialized RX8 : Cond) ∈ TB := tb_i (tc1 (List.mem_of_getElem? (i := 10) rfl)) rfl
set_option maxRecDepth 20000 in
theorem wd_6 : (.arrayClass .long : Cond) ∈ TB := tb_i (tc1 (List.mem_of_getElem? (i := 182) rfl)) rfl
set_option maxRecDepth 20000 in
theorem wd_7 : (.constantLong RL 105 (4294967295) : Cond) ∈ TB := tb_i (tc6 (List.mem_of_getElem? (i := 57) rfl)) rfl
set_option maxRecDepth 20000 in
theorem wd_8 : (.methodLink RL 19 yX7_init : Cond) ∈ TB := tb_i (tc1 (List.mem_of_getElem? (i := 23) rfl)) rfl
set_option maxRecDepth 20000 in
theorem wd_9 : (.instanceMethod yX7_init : Cond) ∈ TB := tb_i (tc1 (List.mem_of_getElem? (i := 24) rfl)) rfl
set_option maxRecDepth 20000 in
theorem wd_10 : (.code yX7_init cX7_init 1 none : Cond) ∈ TB := tb_i (tc1 (List.mem_of_getElem? (i := 25) rfl)) rfl
set_option maxRecDepth 20000 in
theorem wd_11 : (.methodLink RX7 1 objectInit : Cond) ∈ TB := tb_i (tc1 (List.mem_of_getElem? (i := 26) rfl)) rfl
set_option maxRecDepth 20000 in
theorem wd_12 : (.instanceMethod objectInit : Cond) ∈ TB := tb_i (tc1 (List.mem_of_getElem? (i := 27) rfl)) rfl
set_option maxRecDepth 20000 in
theorem wd_13 : (.code objectInit ⟨#[0xb1]⟩ 1 none : Cond) ∈ TB := tb_i (tc1 (List.mem_of_getElem? (i := 28) rfl)) rfl
set_option maxRecDepth 20000 in
theorem wd_14 : (.classLink RX7 7 RX4 : Cond) ∈ TB := tb_i (tc1 (List.mem_of_getElem? (i := 29) rfl)) rfl
set_option maxRecDepth 20000 in
theorem wd_15 : (.instantiable RX4 14 : Cond) ∈ TB := tb_i (tc1 (List.mem_of_getElem? (i := 30) rfl)) rfl
set_option maxRecDepth 20000 in
theorem wd_16 : (.initialized RX4 : Cond) ∈ TB := tb_i (tc1 (List.mem_of_getElem? (i := 2) rfl)) rfl
set_option maxRecDepth 20000 in
theorem wd_17 : (.fieldLink RX7 10 "CoverRings" "settlement" "LCoverRings$Settlement;" : Cond) ∈ TB := tb_i (tc2 (List.mem_of_getElem? (i := 71) rfl)) rfl
set_option maxRecDepth 20000 in
theorem wd_18 : (.fieldLink RX7 16 "CoverRings$Settlement" "book" "LCoverRings$Book;" : Cond) ∈ TB := tb_i (tc1 (List.mem_of_getElem? (i := 184) rfl)) rfl
set_option maxRecDepth 20000 in
theorem wd_19 : (.fieldLink RX7 20 "CoverRings" "book" "LCoverRings$Book;" : Cond) ∈ TB := tb_i (tc2 (List.mem_of_getElem? (i := 70) rfl)) rfl
set_option maxRecDepth 20000 in
theorem wd_20 : (.classLink RX7 21 RX5 : Cond) ∈ TB := tb_i (tc2 (List.mem_of_getElem? (i := 0) rfl)) rfl
set_option maxRecDepth 20000 in
theorem wd_21 : (.instantiable RX5 2 : Cond) ∈ TB := tb_i (tc2 (List.mem_of_getElem? (i := 1) rfl)) rfl
set_option maxRecDepth 20000 in
theorem wd_22 : (.initialized RX5 : Cond) ∈ TB := tb_i (tc1 (List.mem_of_getElem? (i := 7) rfl)) rfl
set_option maxRecDepth 20000 in
theorem wd_23 : (.fieldLink RX7 24 "CoverRings" "shortest" "LCoverRings$Way;" : Cond) ∈ TB := tb_i (tc2 (List.mem_of_getElem? (i := 72) rfl)) rfl
set_option maxRecDepth 20000 in
theorem wd_24 : (.classLink RX7 28 RX1 : Cond) ∈ TB := tb_i (tc2 (List.mem_of_getElem? (i := 14) rfl)) rfl
set_option maxRecDepth 20000 in
theorem wd_25 : (.instantiable RX1 9 : Cond) ∈ TB := tb_i (tc2 (List.mem_of_getElem? (i := 15) rfl)) rfl
set_option maxRecDepth 20000 in
theorem wd_26 : (.initialized RX1 : Cond) ∈ TB := tb_i (tc1 (List.mem_of_getElem? (i := 8) rfl)) rfl
set_option maxRecDepth 20000 in
theorem wd_27 : (.fieldLink RX7 31 "CoverRings" "claim" "LCoverRings$Claim;" : Cond) ∈ TB := tb_i (tc2 (List.mem_of_getElem? (i := 73) rfl)) rfl
set_option maxRecDepth 20000 in
theorem wd_28 : (.classLink RX7 35 RX3 : Cond) ∈ TB := tb_i (tc2 (List.mem_of_getElem? (i := 54) rfl)) rfl
set_option maxRecDepth 20000 in
theorem wd_29 : (.instantiable RX3 2 : Cond) ∈ TB := tb_i (tc2 (List.mem_of_getElem? (i := 55) rfl)) rfl
set_option maxRecDepth 20000 in
theorem wd_30 : (.initialized RX3 : Cond) ∈ TB := tb_i (tc1 (List.mem_of_getElem? (i := 9) rfl)) rfl
set_option maxRecDepth 20000 in
theorem wd_31 : (.fieldLink RX7 38 "CoverRings" "drawers" "LCoverRings$Drawers;" : Cond) ∈ TB := tb_i (tc2 (List.mem_of_getElem? (i := 74) rfl)) rfl
set_option maxRecDepth 20000 in
theorem wd_32 : (.arrayClass .int : Cond) ∈ TB := tb_i (tc1 (List.mem_of_getElem? (i := 115) rfl)) rfl
set_option maxRecDepth 20000 in
theorem wd_33 : (.fieldLink RX7 42 "CoverRings" "earlierShares" "[I" : Cond) ∈ TB := tb_i (tc2 (List.mem_of_getElem? (i := 75) rfl)) rfl
set_option maxRecDepth 20000 in
theorem wd_34 : (.instanceMethod yX4_init : Cond) ∈ TB := tb_i (tc1 (List.mem_of_getElem? (i := 32) rfl)) rfl
set_option maxRecDepth 20000 in
theorem wd_35 : (.code yX4_init cX4_init 1 none : Cond) ∈ TB := tb_i (tc1 (List.mem_of_getElem? (i := 33) rfl)) rfl
set_option maxRecDepth 20000 in
theorem wd_36 : (.methodLink RX4 3 objectInit : Cond) ∈ TB := tb_i (tc1 (List.mem_of_getElem? (i := 34) rfl)) rfl
set_option maxRecDepth 20000 in
theorem wd_37 : (.classLink RX4 9 RX0 : Cond) ∈ TB := tb_i (tc1 (List.mem_of_getElem? (i := 35) rfl)) rfl
set_option maxRecDepth 20000 in
theorem wd_38 : (.instantiable RX0 15 : Cond) ∈ TB := tb_i (tc1 (List.mem_of_getElem? (i := 36) rfl)) rfl
set_option maxRecDepth 20000 in
theorem wd_39 : (.initialized RX0 : Cond) ∈ TB := tb_i (tc1 (List.mem_of_getElem? (i := 3) rfl)) rfl
set_option maxRecDepth 20000 in
theorem wd_40 : (.fieldLink RX4 12 "CoverRings$Settlement" "book" "LCoverRings$Book;" : Cond) ∈ TB := tb_i (tc1 (List.mem_of_getElem? (i := 183) rfl)) rfl
set_option maxRecDepth 20000 in
theorem wd_41 : (.classLink RX4 18 RX6 : Cond) ∈ TB := tb_i (tc1 (List.mem_of_getElem? (i := 116) rfl)) rfl
set_option maxRecDepth 20000 in
theorem wd_42 : (.instantiable RX6 9 : Cond) ∈ TB := tb_i (tc1 (List.mem_of_getElem? (i := 117) rfl)) rfl
set_option maxRecDepth 20000 in
theorem wd_43 : (.initialized RX6 : Cond) ∈ TB := tb_i (tc1 (List.mem_of_getElem? (i := 5) rfl)) rfl
set_option maxRecDepth 20000 in
theorem wd_44 : (.fieldLink RX4 21 "CoverRings$Settlement" "web" "LCoverRings$Web;" : Cond) ∈ TB := tb_i (tc1 (List.mem_of_getElem? (i := 185) rfl)) rfl
set_option maxRecDepth 20000 in
theorem wd_45 : (.classLink RX4 25 RX2 : Cond) ∈ TB := tb_i (tc1 (List.mem_of_getElem? (i := 163) rfl)) rfl
set_option maxRecDepth 20000 in
theorem wd_46 : (.instantiable RX2 3 : Cond) ∈ TB := tb_i (tc1 (List.mem_of_getElem? (i := 164) rfl)) rfl
set_option maxRecDepth 20000 in
theorem wd_47 : (.initialized RX2 : Cond) ∈ TB := tb_i (tc1 (List.mem_of_getElem? (i := 6) rfl)) rfl
set_option maxRecDepth 20000 in
theorem wd_48 : (.fieldLink RX4 28 "CoverRings$Settlement" "divider" "LCoverRings$Divider;" : Cond) ∈ TB := tb_i (tc1 (List.mem_of_getElem? (i := 187) rfl)) rfl
set_option maxRecDepth 20000 in
theorem wd_49 : (.fieldLink RX4 32 "CoverRings$Settlement" "left" "[I" : Cond) ∈ TB := tb_i (tc1 (List.mem_of_getElem? (i := 193) rfl)) rfl
set_option maxRecDepth 20000 in
theorem wd_50 : (.fieldLink RX4 36 "CoverRings$Settlement" "ahead" "[I" : Cond) ∈ TB := tb_i (tc1 (List.mem_of_getElem? (i := 195) rfl)) rfl
set_option maxRecDepth 20000 in
theorem wd_51 : (.fieldLink RX4 39 "CoverRings$Settlement" "usedUpBy" "[I" : Cond) ∈ TB := tb_i (tc1 (List.mem_of_getElem? (i := 197) rfl)) rfl
set_option maxRecDepth 20000 in
theorem wd_52 : (.fieldLink RX4 42 "CoverRings$Settlement" "lones" "[I" : Cond) ∈ TB := tb_i (tc1 (List.mem_of_getElem? (i := 199) rfl)) rfl
set_option maxRecDepth 20000 in
theorem wd_53 : (.fieldLink RX4 45 "CoverRings$Settlement" "caps" "[I" : Cond) ∈ TB := tb_i (tc1 (List.mem_of_getElem? (i := 201) rfl)) rfl
set_option maxRecDepth 20000 in
theorem wd_54 : (.fieldLink RX4 48 "CoverRings$Settlement" "shares" "[I" : Cond) ∈ TB := tb_i (tc1 (List.mem_of_getElem? (i := 203) rfl)) rfl
set_option maxRecDepth 20000 in
theorem wd_55 : (.fieldLink RX4 51 "CoverRings$Settlement" "burdens" "[I" : Cond) ∈ TB := tb_i (tc1 (List.mem_of_getElem? (i := 205) rfl)) rfl
set_option maxRecDepth 20000 in
theorem wd_56 : (.methodLink RX4 11 yX0_init : Cond) ∈ TB := tb_i (tc1 (List.mem_of_getElem? (i := 37) rfl)) rfl
set_option maxRecDepth 20000 in
theorem wd_57 : (.instanceMethod yX0_init : Cond) ∈ TB := tb_i (tc1 (List.mem_of_getElem? (i := 38) rfl)) rfl
set_option maxRecDepth 20000 in
theorem wd_58 : (.code yX0_init cX0_init 1 none : Cond) ∈ TB := tb_i (tc1 (List.mem_of_getElem? (i := 39) rfl)) rfl
set_option maxRecDepth 20000 in
theorem wd_59 : (.methodLink RX0 3 objectInit : Cond) ∈ TB := tb_i (tc1 (List.mem_of_getElem? (i := 40) rfl)) rfl
set_option maxRecDepth 20000 in
theorem wd_60 : (.fieldLink RX0 9 "CoverRings$Book" "limits" "[I" : Cond) ∈ TB := tb_i (tc1 (List.mem_of_getElem? (i := 44) rfl)) rfl
set_option maxRecDepth 20000 in
theorem wd_61 : (.fieldLink RX0 15 "CoverRings$Book" "aggregates" "[I" : Cond) ∈ TB := tb_i (tc1 (List.mem_of_getElem? (i := 47) rfl)) rfl
set_option maxRecDepth 20000 in
theorem wd_62 : (.fieldLink RX0 18 "CoverRings$Book" "deductibles" "[I" : Cond) ∈ TB := tb_i (tc1 (List.mem_of_getElem? (i := 50) rfl)) rfl
set_option maxRecDepth 20000 in
theorem wd_63 : (.fieldLink RX0 21 "CoverRings$Book" "values" "[I" : Cond) ∈ TB := tb_i (tc1 (List.mem_of_getElem? (i := 53) rfl)) rfl
set_option maxRecDepth 20000 in
theorem wd_64 : (.fieldLink RX0 24 "CoverRings$Book" "items" "[I" : Cond) ∈ TB := tb_i (tc1 (List.mem_of_getElem? (i := 56) rfl)) rfl
set_option maxRecDepth 20000 in
theorem wd_65 : (.fieldLink RX0 27 "CoverRings$Book" "kinds" "[I" : Cond) ∈ TB := tb_i (tc1 (List.mem_of_getElem? (i := 59) rfl)) rfl
set_option maxRecDepth 20000 in
theorem wd_66 : (.fieldLink RX0 30 "CoverRings$Book" "tos" "[I" : Cond) ∈ TB := tb_i (tc1 (List.mem_of_getElem? (i := 62) rfl)) rfl
set_option maxRecDepth 20000 in
theorem wd_67 : (.fieldLink RX0 33 "CoverRings$Book" "premiums" "[I" : Cond) ∈ TB := tb_i (tc1 (List.mem_of_getElem? (i := 65) rfl)) rfl
set_option maxRecDepth 20000 in
theorem wd_68 : (.fieldLink RX0 36 "CoverRings$Book" "sublimits" "[I" : Cond) ∈ TB := tb_i (tc1 (List.mem_of_getElem? (i := 67) rfl)) rfl
set_option maxRecDepth 20000 in
theorem wd_69 : (.fieldLink RX0 39 "CoverRings$Book" "worths" "[I" : Cond) ∈ TB := tb_i (tc1 (List.mem_of_getElem? (i := 70) rfl)) rfl
set_option maxRecDepth 20000 in
theorem wd_70 : (.fieldLink RX0 42 "CoverRings$Book" "lossItems" "[I" : Cond) ∈ TB := tb_i (tc1 (List.mem_of_getElem? (i := 72) rfl)) rfl
set_option maxRecDepth 20000 in
theorem wd_71 : (.fieldLink RX0 45 "CoverRings$Book" "amounts" "[I" : Cond) ∈ TB := tb_i (tc1 (List.mem_of_getElem? (i := 75) rfl)) rfl
set_option maxRecDepth 20000 in
theorem wd_72 : (.methodLink RX0 48 yJ7_fill_53178 : Cond) ∈ TB := tb_i (tc1 (List.mem_of_getElem? (i := 41) rfl)) rfl
set_option maxRecDepth 20000 in
theorem wd_73 : (.static yJ7_fill_53178 : Cond) ∈ TB := tb_i (tc1 (List.mem_of_getElem? (i := 42) rfl)) rfl
set_option maxRecDepth 20000 in
theorem wd_74 : (.initialized RJ7 : Cond) ∈ TB := tb_i (tc1 (List.mem_of_getElem? (i := 4) rfl)) rfl
set_option maxRecDepth 20000 in
theorem wd_75 : (.code yJ7_fill_53178 cJ7_fill_53178 4 none : Cond) ∈ TB := tb_i (tc1 (List.mem_of_getElem? (i := 43) rfl)) rfl
set_option maxRecDepth 20000 in
theorem wd_76 : (.instanceMethod yX6_init : Cond) ∈ TB := tb_i (tc1 (List.mem_of_getElem? (i := 119) rfl)) rfl
set_option maxRecDepth 20000 in
theorem wd_77 : (.code yX6_init cX6_init 1 none : Cond) ∈ TB := tb_i (tc1 (List.mem_of_getElem? (i := 120) rfl)) rfl
set_option maxRecDepth 20000 in
theorem wd_78 : (.methodLink RX6 3 objectInit : Cond) ∈ TB := tb_i (tc1 (List.mem_of_getElem? (i := 121) rfl)) rfl
set_option maxRecDepth 20000 in
theorem wd_79 : (.fieldLink RX6 9 "CoverRings$Web" "kinds" "[I" : Cond) ∈ TB := tb_i (tc1 (List.mem_of_getElem? (i := 122) rfl)) rfl
set_option maxRecDepth 20000 in
theorem wd_80 : (.fieldLink RX6 15 "CoverRings$Web" "yields" "[I" : Cond) ∈ TB := tb_i (tc1 (List.mem_of_getElem? (i := 125) rfl)) rfl
set_option maxRecDepth 20000 in
theorem wd_81 : (.fieldLink RX6 18 "CoverRings$Web" "rings" "[I" : Cond) ∈ TB := tb_i (tc1 (List.mem_of_getElem? (i := 127) rfl)) rfl
set_option maxRecDepth 20000 in
theorem wd_82 : (.fieldLink RX6 21 "CoverRings$Web" "levelOf" "[I" : Cond) ∈ TB := tb_i (tc1 (List.mem_of_getElem? (i := 129) rfl)) rfl
set_option maxRecDepth 20000 in
theorem wd_83 : (.fieldLink RX6 24 "CoverRings$Web" "levelSets" "[I" : Cond) ∈ TB := tb_i (tc1 (List.mem_of_getElem? (i := 132) rfl)) rfl
set_option maxRecDepth 20000 in
theorem wd_84 : (.fieldLink RX6 27 "CoverRings$Web" "reached" "[I" : Cond) ∈ TB := tb_i (tc1 (List.mem_of_getElem? (i := 143) rfl)) rfl
set_option maxRecDepth 20000 in
theorem wd_85 : (.instanceMethod yX2_init : Cond) ∈ TB := tb_i (tc1 (List.mem_of_getElem? (i := 166) rfl)) rfl
set_option maxRecDepth 20000 in
theorem wd_86 : (.code yX2_init cX2_init 1 none : Cond) ∈ TB := tb_i (tc1 (List.mem_of_getElem? (i := 167) rfl)) rfl
set_option maxRecDepth 20000 in
theorem wd_87 : (.methodLink RX2 3 objectInit : Cond) ∈ TB := tb_i (tc1 (List.mem_of_getElem? (i := 168) rfl)) rfl
set_option maxRecDepth 20000 in
theorem wd_88 : (.fieldLink RX2 9 "CoverRings$Divider" "caps" "[I" : Cond) ∈ TB := tb_i (tc1 (List.mem_of_getElem? (i := 169) rfl)) rfl
set_option maxRecDepth 20000 in
theorem wd_89 : (.fieldLink RX2 15 "CoverRings$Divider" "parts" "[I" : Cond) ∈ TB := tb_i (tc1 (List.mem_of_getElem? (i := 171) rfl)) rfl
set_option maxRecDepth 20000 in
theorem wd_90 : (.fieldLink RX2 18 "CoverRings$Divider" "lost" "[J" : Cond) ∈ TB := tb_i (tc1 (List.mem_of_getElem? (i := 174) rfl)) rfl
set_option maxRecDepth 20000 in
theorem wd_91 : (.instanceMethod yX5_init : Cond) ∈ TB := tb_i (tc2 (List.mem_of_getElem? (i := 3) rfl)) rfl
set_option maxRecDepth 20000 in
theorem wd_92 : (.code yX5_init cX5_init 1 none : Cond) ∈ TB := tb_i (tc2 (List.mem_of_getElem? (i := 4) rfl)) rfl
set_option maxRecDepth 20000 in
theorem wd_93 : (.methodLink RX5 3 objectInit : Cond) ∈ TB := tb_i (tc2 (List.mem_of_getElem? (i := 5) rfl)) rfl
set_option maxRecDepth 20000 in
theorem wd_94 : (.fieldLink RX5 9 "CoverRings$Way" "row" "[I" : Cond) ∈ TB := tb_i (tc2 (List.mem_of_getElem? (i := 6) rfl)) rfl
set_option maxRecDepth 20000 in
theorem wd_95 : (.fieldLink RX5 15 "CoverRings$Way" "rounds" "[I" : Cond) ∈ TB := tb_i (tc2 (List.mem_of_getElem? (i := 8) rfl)) rfl
set_option maxRecDepth 20000 in
theorem wd_96 : (.instanceMethod yX1_init : Cond) ∈ TB := tb_i (tc2 (List.mem_of_getElem? (i := 17) rfl)) rfl
set_option maxRecDepth 20000 in
theorem wd_97 : (.code yX1_init cX1_init 1 none : Cond) ∈ TB := tb_i (tc2 (List.mem_of_getElem? (i := 18) rfl)) rfl
set_option maxRecDepth 20000 in
theorem wd_98 : (.methodLink RX1 3 objectInit : Cond) ∈ TB := tb_i (tc2 (List.mem_of_getElem? (i := 19) rfl)) rfl
set_option maxRecDepth 20000 in
theorem wd_99 : (.fieldLink RX1 9 "CoverRings$Claim" "firsts" "[I" : Cond) ∈ TB := tb_i (tc2 (List.mem_of_getElem? (i := 20) rfl)) rfl
set_option maxRecDepth 20000 in
theorem wd_100 : (.fieldLink RX1 15 "CoverRings$Claim" "payers" "[I" : Cond) ∈ TB := tb_i (tc2 (List.mem_of_getElem? (i := 22) rfl)) rfl
set_option maxRecDepth 20000 in
theorem wd_101 : (.fieldLink RX1 18 "CoverRings$Claim" "payees" "[I" : Cond) ∈ TB := tb_i (tc2 (List.mem_of_getElem? (i := 24) rfl)) rfl
set_option maxRecDepth 20000 in
theorem wd_102 : (.fieldLink RX1 21 "CoverRings$Claim" "sums" "[I" : Cond) ∈ TB := tb_i (tc2 (List.mem_of_getElem? (i := 26) rfl)) rfl
set_option maxRecDepth 20000 in
theorem wd_103 : (.fieldLink RX1 24 "CoverRings$Claim" "order" "[I" : Cond) ∈ TB := tb_i (tc2 (List.mem_of_getElem? (i := 32) rfl)) rfl
set_option maxRecDepth 20000 in
theorem wd_104 : (.fieldLink RX1 27 "CoverRings$Claim" "balances" "[I" : Cond) ∈ TB := tb_i (tc2 (List.mem_of_getElem? (i := 34) rfl)) rfl
set_option maxRecDepth 20000 in
theorem wd_105 : (.methodLink RX7 37 yX3_init : Cond) ∈ TB := tb_i (tc2 (List.mem_of_getElem? (i := 56) rfl)) rfl
set_option maxRecDepth 20000 in
theorem wd_106 : (.instanceMethod yX3_init : Cond) ∈ TB := tb_i (tc2 (List.mem_of_getElem? (i := 57) rfl)) rfl
set_option maxRecDepth 20000 in
theorem wd_107 : (.code yX3_init cX3_init 1 none : Cond) ∈ TB := tb_i (tc2 (List.mem_of_getElem? (i := 58) rfl)) rfl
set_option maxRecDepth 20000 in
theorem wd_108 : (.methodLink RX3 3 objectInit : Cond) ∈ TB := tb_i (tc2 (List.mem_of_getElem? (i := 59) rfl)) rfl
set_option maxRecDepth 20000 in
theorem wd_109 : (.fieldLink RX3 9 "CoverRings$Drawers" "policies" "[I" : Cond) ∈ TB := tb_i (tc2 (List.mem_of_getElem? (i := 61) rfl)) rfl
set_option maxRecDepth 20000 in
theorem wd_110 : (.fieldLink RX3 15 "CoverRings$Drawers" "tos" "[I" : Cond) ∈ TB := tb_i (tc2 (List.mem_of_getElem? (i := 63) rfl)) rfl
set_option maxRecDepth 20000 in
theorem wd_111 : (.methodLink RX3 18 yJ7_fill_53178 : Cond) ∈ TB := tb_i (tc2 (List.mem_of_getElem? (i := 60) rfl)) rfl
set_option maxRecDepth 20000 in
theorem wd_112 : (.methodLink RL 22 yX8_init : Cond) ∈ TB := tb_i (tc4 (List.mem_of_getElem? (i := 92) rfl)) rfl
set_option maxRecDepth 20000 in
theorem wd_113 : (.instanceMethod yX8_init : Cond) ∈ TB := tb_i (tc4 (List.mem_of_getElem? (i := 93) rfl)) rfl
set_option maxRecDepth 20000 in
theorem wd_114 : (.code yX8_init cX8_init 1 none : Cond) ∈ TB := tb_i (tc4 (List.mem_of_getElem? (i := 94) rfl)) rfl
set_option maxRecDepth 20000 in
theorem wd_115 : (.methodLink RX8 1 objectInit : Cond) ∈ TB := tb_i (tc4 (List.mem_of_getElem? (i := 95) rfl)) rfl
set_option maxRecDepth 20000 in
theorem wd_116 : (.fieldLink RX8 7 "CoverRingsModel" "limit" "[I" : Cond) ∈ TB := tb_i (tc4 (List.mem_of_getElem? (i := 98) rfl)) rfl
set_option maxRecDepth 20000 in
theorem wd_117 : (.fieldLink RX8 13 "CoverRingsModel" "aggregate" "[I" : Cond) ∈ TB := tb_i (tc4 (List.mem_of_getElem? (i := 99) rfl)) rfl
set_option maxRecDepth 20000 in
theorem wd_118 : (.fieldLink RX8 16 "CoverRingsModel" "deductible" "[I" : Cond) ∈ TB := tb_i (tc4 (List.mem_of_getElem? (i := 100) rfl)) rfl
set_option maxRecDepth 20000 in
theorem wd_119 : (.fieldLink RX8 19 "CoverRingsModel" "worthOf" "[I" : Cond) ∈ TB := tb_i (tc4 (List.mem_of_getElem? (i := 101) rfl)) rfl
set_option maxRecDepth 20000 in
theorem wd_120 : (.fieldLink RX8 22 "CoverRingsModel" "items" "[I" : Cond) ∈ TB := tb_i (tc4 (List.mem_of_getElem? (i := 102) rfl)) rfl
set_option maxRecDepth 20000 in
theorem wd_121 : (.fieldLink RX8 25 "CoverRingsModel" "kind" "[I" : Cond) ∈ TB := tb_i (tc4 (List.mem_of_getElem? (i := 103) rfl)) rfl
set_option maxRecDepth 20000 in
theorem wd_122 : (.fieldLink RX8 28 "CoverRingsModel" "to" "[I" : Cond) ∈ TB := tb_i (tc4 (List.mem_of_getElem? (i := 104) rfl)) rfl
set_option maxRecDepth 20000 in
theorem wd_123 : (.fieldLink RX8 31 "CoverRingsModel" "premium" "[I" : Cond) ∈ TB := tb_i (tc4 (List.mem_of_getElem? (i := 105) rfl)) rfl
set_option maxRecDepth 20000 in
theorem wd_124 : (.fieldLink RX8 34 "CoverRingsModel" "sub" "[I" : Cond) ∈ TB := tb_i (tc4 (List.mem_of_getElem? (i := 106) rfl)) rfl
set_option maxRecDepth 20000 in
theorem wd_125 : (.fieldLink RX8 37 "CoverRingsModel" "item" "[I" : Cond) ∈ TB := tb_i (tc4 (List.mem_of_getElem? (i := 108) rfl)) rfl
set_option maxRecDepth 20000 in
theorem wd_126 : (.fieldLink RX8 40 "CoverRingsModel" "amount" "[I" : Cond) ∈ TB := tb_i (tc4 (List.mem_of_getElem? (i := 109) rfl)) rfl
set_option maxRecDepth 20000 in
theorem wd_127 : (.fieldLink RX8 43 "CoverRingsModel" "worth" "[I" : Cond) ∈ TB := tb_i (tc4 (List.mem_of_getElem? (i := 111) rfl)) rfl
set_option maxRecDepth 20000 in
theorem wd_128 : (.fieldLink RX8 46 "CoverRingsModel" "filedPolicy" "[I" : Cond) ∈ TB := tb_i (tc4 (List.mem_of_getElem? (i := 112) rfl)) rfl
set_option maxRecDepth 20000 in
theorem wd_129 : (.fieldLink RX8 49 "CoverRingsModel" "filedTo" "[I" : Cond) ∈ TB := tb_i (tc4 (List.mem_of_getElem? (i := 113) rfl)) rfl
set_option maxRecDepth 20000 in
theorem wd_130 : (.fieldLink RX8 52 "CoverRingsModel" "left" "[I" : Cond) ∈ TB := tb_i (tc4 (List.mem_of_getElem? (i := 115) rfl)) rfl
set_option maxRecDepth 20000 in
theorem wd_131 : (.fieldLink RX8 55 "CoverRingsModel" "lone" "[I" : Cond) ∈ TB := tb_i (tc4 (List.mem_of_getElem? (i := 116) rfl)) rfl
set_option maxRecDepth 20000 in
theorem wd_132 : (.fieldLink RX8 58 "CoverRingsModel" "yields" "[I" : Cond) ∈ TB := tb_i (tc4 (List.mem_of_getElem? (i := 117) rfl)) rfl
set_option maxRecDepth 20000 in
theorem wd_133 : (.fieldLink RX8 61 "CoverRingsModel" "reach" "[I" : Cond) ∈ TB := tb_i (tc4 (List.mem_of_getElem? (i := 118) rfl)) rfl
set_option maxRecDepth 20000 in
theorem wd_134 : (.fieldLink RX8 64 "CoverRingsModel" "ring" "[I" : Cond) ∈ TB := tb_i (tc4 (List.mem_of_getElem? (i := 119) rfl)) rfl
set_option maxRecDepth 20000 in
theorem wd_135 : (.fieldLink RX8 67 "CoverRingsModel" "truly" "[I" : Cond) ∈ TB := tb_i (tc4 (List.mem_of_getElem? (i := 120) rfl)) rfl
set_option maxRecDepth 20000 in
theorem wd_136 : (.fieldLink RX8 70 "CoverRingsModel" "level" "[I" : Cond) ∈ TB := tb_i (tc4 (List.mem_of_getElem? (i := 121) rfl)) rfl
set_option maxRecDepth 20000 in
theorem wd_137 : (.fieldLink RX8 73 "CoverRingsModel" "cap" "[I" : Cond) ∈ TB := tb_i (tc4 (List.mem_of_getElem? (i := 122) rfl)) rfl
set_option maxRecDepth 20000 in
theorem wd_138 : (.fieldLink RX8 76 "CoverRingsModel" "share" "[I" : Cond) ∈ TB := tb_i (tc4 (List.mem_of_getElem? (i := 123) rfl)) rfl
set_option maxRecDepth 20000 in
theorem wd_139 : (.fieldLink RX8 79 "CoverRingsModel" "spent" "[I" : Cond) ∈ TB := tb_i (tc4 (List.mem_of_getElem? (i := 124) rfl)) rfl
set_option maxRecDepth 20000 in
theorem wd_140 : (.fieldLink RX8 82 "CoverRingsModel" "burden" "[I" : Cond) ∈ TB := tb_i (tc4 (List.mem_of_getElem? (i := 129) rfl)) rfl
set_option maxRecDepth 20000 in
theorem wd_141 : (.fieldLink RX8 85 "CoverRingsModel" "height" "[I" : Cond) ∈ TB := tb_i (tc4 (List.mem_of_getElem? (i := 130) rfl)) rfl
set_option maxRecDepth 20000 in
theorem wd_142 : (.fieldLink RX8 88 "CoverRingsModel" "caps" "[I" : Cond) ∈ TB := tb_i (tc4 (List.mem_of_getElem? (i := 131) rfl)) rfl
set_option maxRecDepth 20000 in
theorem wd_143 : (.fieldLink RX8 91 "CoverRingsModel" "parts" "[I" : Cond) ∈ TB := tb_i (tc4 (List.mem_of_getElem? (i := 132) rfl)) rfl
set_option maxRecDepth 20000 in
theorem wd_144 : (.fieldLink RX8 94 "CoverRingsModel" "rest" "[J" : Cond) ∈ TB := tb_i (tc4 (List.mem_of_getElem? (i := 133) rfl)) rfl
set_option maxRecDepth 20000 in
theorem wd_145 : (.fieldLink RX8 98 "CoverRingsModel" "far" "[I" : Cond) ∈ TB := tb_i (tc4 (List.mem_of_getElem? (i := 134) rfl)) rfl
set_option maxRecDepth 20000 in
theorem wd_146 : (.fieldLink RX8 101 "CoverRingsModel" "paid" "[I" : Cond) ∈ TB := tb_i (tc4 (List.mem_of_getElem? (i := 135) rfl)) rfl
set_option maxRecDepth 20000 in
theorem wd_147 : (.fieldLink RX8 104 "CoverRingsModel" "balance" "[I" : Cond) ∈ TB := tb_i (tc4 (List.mem_of_getElem? (i := 137) rfl)) rfl
set_option maxRecDepth 20000 in
theorem wd_148 : (.fieldLink RX8 107 "CoverRingsModel" "moves" "[I" : Cond) ∈ TB := tb_i (tc4 (List.mem_of_getElem? (i := 138) rfl)) rfl
set_option maxRecDepth 20000 in
theorem wd_149 : (.fieldLink RX8 110 "CoverRingsModel" "toldYields" "[I" : Cond) ∈ TB := tb_i (tc4 (List.mem_of_getElem? (i := 140) rfl)) rfl
set_option maxRecDepth 20000 in
theorem wd_150 : (.fieldLink RX8 113 "CoverRingsModel" "before" "[I" : Cond) ∈ TB := tb_i (tc4 (List.mem_of_getElem? (i := 141) rfl)) rfl
set_option maxRecDepth 20000 in
theorem wd_151 : (.methodLink RL 23 yX7_policy : Cond) ∈ TB := tb_i (tc2 (List.mem_of_getElem? (i := 89) rfl)) rfl
set_option maxRecDepth 20000 in
theorem wd_152 : (.instanceMethod yX7_policy : Cond) ∈ TB := tb_i (tc2 (List.mem_of_getElem? (i := 90) rfl)) rfl
set_option maxRecDepth 20000 in
theorem wd_153 : (.selects RX7 yX7_policy yX7_policy : Cond) ∈ TB := tb_i (tc2 (List.mem_of_getElem? (i := 91) rfl)) rfl
set_option maxRecDepth 20000 in
theorem wd_154 : (.code yX7_policy cX7_policy 7 (some .int) : Cond) ∈ TB := tb_i (tc2 (List.mem_of_getElem? (i := 92) rfl)) rfl
set_option maxRecDepth 20000 in
theorem wd_155 : (.constant RX7 46 (1000000) : Cond) ∈ TB := tb_i (tc2 (List.mem_of_getElem? (i := 93) rfl)) rfl
set_option maxRecDepth 20000 in
theorem wd_156 : (.constant RX7 51 (9000000) : Cond) ∈ TB := tb_i (tc2 (List.mem_of_getElem? (i := 97) rfl)) rfl
set_option maxRecDepth 20000 in
theorem wd_157 : (.constant RX7 52 (99999) : Cond) ∈ TB := tb_i (tc2 (List.mem_of_getElem? (i := 98) rfl)) rfl
set_option maxRecDepth 20000 in
theorem wd_158 : (.fieldLink RX7 53 "CoverRings$Book" "policies" "I" : Cond) ∈ TB := tb_i (tc1 (List.mem_of_getElem? (i := 79) rfl)) rfl
set_option maxRecDepth 20000 in
theorem wd_159 : (.fieldLink RX7 59 "CoverRings$Book" "limits" "[I" : Cond) ∈ TB := tb_i (tc1 (List.mem_of_getElem? (i := 45) rfl)) rfl
set_option maxRecDepth 20000 in
theorem wd_160 : (.fieldLink RX7 62 "CoverRings$Book" "aggregates" "[I" : Cond) ∈ TB := tb_i (tc1 (List.mem_of_getElem? (i := 48) rfl)) rfl
set_option maxRecDepth 20000 in
theorem wd_161 : (.fieldLink RX7 65 "CoverRings$Book" "deductibles" "[I" : Cond) ∈ TB := tb_i (tc1 (List.mem_of_getElem? (i := 51) rfl)) rfl
set_option maxRecDepth 20000 in
theorem wd_162 : (.fieldLink RX7 68 "CoverRings$Book" "values" "[I" : Cond) ∈ TB := tb_i (tc1 (List.mem_of_getElem? (i := 54) rfl)) rfl
set_option maxRecDepth 20000 in
theorem wd_163 : (.fieldLink RX7 71 "CoverRings$Book" "items" "[I" : Cond) ∈ TB := tb_i (tc1 (List.mem_of_getElem? (i := 57) rfl)) rfl
set_option maxRecDepth 20000 in
theorem wd_164 : (.methodLink RX7 47 yX7_within : Cond) ∈ TB := tb_i (tc2 (List.mem_of_getElem? (i := 94) rfl)) rfl
set_option maxRecDepth 20000 in
theorem wd_165 : (.static yX7_within : Cond) ∈ TB := tb_i (tc2 (List.mem_of_getElem? (i := 95) rfl)) rfl
set_option maxRecDepth 20000 in
theorem wd_166 : (.code yX7_within cX7_within 3 (some .boolean) : Cond) ∈ TB := tb_i (tc2 (List.mem_of_getElem? (i := 96) rfl)) rfl
set_option maxRecDepth 20000 in
theorem wd_167 : (.methodLink RL 27 yX8_policy : Cond) ∈ TB := tb_i (tc4 (List.mem_of_getElem? (i := 235) rfl)) rfl
set_option maxRecDepth 20000 in
theorem wd_168 : (.instanceMethod yX8_policy : Cond) ∈ TB := tb_i (tc4 (List.mem_of_getElem? (i := 236) rfl)) rfl
set_option maxRecDepth 20000 in
theorem wd_169 : (.selects RX8 yX8_policy yX8_policy : Cond) ∈ TB := tb_i (tc4 (List.mem_of_getElem? (i := 237) rfl)) rfl
set_option maxRecDepth 20000 in
theorem wd_170 : (.code yX8_policy cX8_policy 7 (some .int) : Cond) ∈ TB := tb_i (tc4 (List.mem_of_getElem? (i := 238) rfl)) rfl
set_option maxRecDepth 20000 in
theorem wd_171 : (.fieldLink RX8 116 "CoverRingsModel" "raised" "I" : Cond) ∈ TB := tb_i (tc4 (List.mem_of_getElem? (i := 96) rfl)) rfl
set_option maxRecDepth 20000 in
theorem wd_172 : (.constantLong RX8 132 (1000000) : Cond) ∈ TB := tb_i (tc4 (List.mem_of_getElem? (i := 239) rfl)) rfl
set_option maxRecDepth 20000 in
theorem wd_173 : (.constantLong RX8 134 (9000000) : Cond) ∈ TB := tb_i (tc5 (List.mem_of_getElem? (i := 3) rfl)) rfl
set_option maxRecDepth 20000 in
theorem wd_174 : (.constantLong RX8 136 (99999) : Cond) ∈ TB := tb_i (tc5 (List.mem_of_getElem? (i := 4) rfl)) rfl
set_option maxRecDepth 20000 in
theorem wd_175 : (.constantLong RX8 138 (255) : Cond) ∈ TB := tb_i (tc5 (List.mem_of_getElem? (i := 5) rfl)) rfl
set_option maxRecDepth 20000 in
theorem wd_176 : (.fieldLink RX8 120 "CoverRingsModel" "many" "I" : Cond) ∈ TB := tb_i (tc4 (List.mem_of_getElem? (i := 97) rfl)) rfl
set_option maxRecDepth 20000 in
theorem wd_177 : (.methodLink RX8 123 yX8_in : Cond) ∈ TB := tb_i (tc5 (List.mem_of_getElem? (i := 0) rfl)) rfl
set_option maxRecDepth 20000 in
theorem wd_178 : (.static yX8_in : Cond) ∈ TB := tb_i (tc5 (List.mem_of_getElem? (i := 1) rfl)) rfl
set_option maxRecDepth 20000 in
theorem wd_179 : (.code yX8_in cX8_in 6 (some .boolean) : Cond) ∈ TB := tb_i (tc5 (List.mem_of_getElem? (i := 2) rfl)) rfl
set_option maxRecDepth 20000 in
theorem wd_180 : (.methodLink RL 28 yX7_clause : Cond) ∈ TB := tb_i (tc2 (List.mem_of_getElem? (i := 99) rfl)) rfl
set_option maxRecDepth 20000 in
theorem wd_181 : (.instanceMethod yX7_clause : Cond) ∈ TB := tb_i (tc2 (List.mem_of_getElem? (i := 100) rfl)) rfl
set_option maxRecDepth 20000 in
theorem wd_182 : (.selects RX7 yX7_clause yX7_clause : Cond) ∈ TB := tb_i (tc2 (List.mem_of_getElem? (i := 101) rfl)) rfl
set_option maxRecDepth 20000 in
theorem wd_183 : (.code yX7_clause cX7_clause 4 (some .boolean) : Cond) ∈ TB := tb_i (tc2 (List.mem_of_getElem? (i := 102) rfl)) rfl
set_option maxRecDepth 20000 in
theorem wd_184 : (.fieldLink RX7 81 "CoverRings$Book" "kinds" "[I" : Cond) ∈ TB := tb_i (tc1 (List.mem_of_getElem? (i := 61) rfl)) rfl
set_option maxRecDepth 20000 in
theorem wd_185 : (.fieldLink RX7 84 "CoverRings$Book" "tos" "[I" : Cond) ∈ TB := tb_i (tc1 (List.mem_of_getElem? (i := 63) rfl)) rfl
set_option maxRecDepth 20000 in
theorem wd_186 : (.methodLink RX7 74 yX7_isPolicy : Cond) ∈ TB := tb_i (tc2 (List.mem_of_getElem? (i := 103) rfl)) rfl
set_option maxRecDepth 20000 in
theorem wd_187 : (.instanceMethod yX7_isPolicy : Cond) ∈ TB := tb_i (tc2 (List.mem_of_getElem? (i := 105) rfl)) rfl
set_option maxRecDepth 20000 in
theorem wd_188 : (.selects RX7 yX7_isPolicy yX7_isPolicy : Cond) ∈ TB := tb_i (tps (q := (⟨"CoverRings", "isPolicy", "(I)Z"⟩, 6)) (List.mem_append_left _ (List.mem_of_getElem? (i := 0) rfl))) rfl
set_option maxRecDepth 20000 in
theorem wd_189 : (.code yX7_isPolicy cX7_isPolicy 2 (some .boolean) : Cond) ∈ TB := tb_i (tc2 (List.mem_of_getElem? (i := 106) rfl)) rfl
set_option maxRecDepth 20000 in
theorem wd_190 : (.methodLink RX7 78 yX7_isKind : Cond) ∈ TB := tb_i (tc2 (List.mem_of_getElem? (i := 107) rfl)) rfl
set_option maxRecDepth 20000 in
theorem wd_191 : (.static yX7_isKind : Cond) ∈ TB := tb_i (tc2 (List.mem_of_getElem? (i := 108) rfl)) rfl
set_option maxRecDepth 20000 in
theorem wd_192 : (.code yX7_isKind cX7_isKind 1 (some .boolean) : Cond) ∈ TB := tb_i (tc2 (List.mem_of_getElem? (i := 109) rfl)) rfl
set_option maxRecDepth 20000 in
theorem wd_193 : (.methodLink RL 32 yX8_clause : Cond) ∈ TB := tb_i (tc5 (List.mem_of_getElem? (i := 6) rfl)) rfl
set_option maxRecDepth 20000 in
theorem wd_194 : (.instanceMethod yX8_clause : Cond) ∈ TB := tb_i (tc5 (List.mem_of_getElem? (i := 7) rfl)) rfl
set_option maxRecDepth 20000 in
theorem wd_195 : (.selects RX8 yX8_clause yX8_clause : Cond) ∈ TB := tb_i (tc5 (List.mem_of_getElem? (i := 8) rfl)) rfl
set_option maxRecDepth 20000 in
theorem wd_196 : (.code yX8_clause cX8_clause 4 (some .boolean) : Cond) ∈ TB := tb_i (tc5 (List.mem_of_getElem? (i := 9) rfl)) rfl
set_option maxRecDepth 20000 in
theorem wd_197 : (.constantLong RX8 144 (3) : Cond) ∈ TB := tb_i (tc5 (List.mem_of_getElem? (i := 14) rfl)) rfl
set_option maxRecDepth 20000 in
theorem wd_198 : (.methodLink RX8 140 yX8_isPolicy : Cond) ∈ TB := tb_i (tc5 (List.mem_of_getElem? (i := 10) rfl)) rfl
set_option maxRecDepth 20000 in
theorem wd_199 : (.instanceMethod yX8_isPolicy : Cond) ∈ TB := tb_i (tc5 (List.mem_of_getElem? (i := 12) rfl)) rfl
set_option maxRecDepth 20000 in
theorem wd_200 : (.selects RX8 yX8_isPolicy yX8_isPolicy : Cond) ∈ TB := tb_i (tps (q := (⟨"CoverRingsModel", "isPolicy", "(I)Z"⟩, 46)) (List.mem_append_right _ (List.mem_append_left _ (List.mem_of_getElem? (i := 10) rfl)))) rfl
set_option maxRecDepth 20000 in
theorem wd_201 : (.code yX8_isPolicy cX8_isPolicy 2 (some .boolean) : Cond) ∈ TB := tb_i (tc5 (List.mem_of_getElem? (i := 13) rfl)) rfl
set_option maxRecDepth 20000 in
theorem wd_202 : (.methodLink RL 33 yX7_limit : Cond) ∈ TB := tb_i (tc2 (List.mem_of_getElem? (i := 110) rfl)) rfl
set_option maxRecDepth 20000 in
theorem wd_203 : (.instanceMethod yX7_limit : Cond) ∈ TB := tb_i (tc2 (List.mem_of_getElem? (i := 111) rfl)) rfl
set_option maxRecDepth 20000 in
theorem wd_204 : (.selects RX7 yX7_limit yX7_limit : Cond) ∈ TB := tb_i (tc2 (List.mem_of_getElem? (i := 112) rfl)) rfl
set_option maxRecDepth 20000 in
theorem wd_205 : (.code yX7_limit cX7_limit 3 (some .boolean) : Cond) ∈ TB := tb_i (tc2 (List.mem_of_getElem? (i := 113) rfl)) rfl
set_option maxRecDepth 20000 in
theorem wd_206 : (.methodLink RX7 87 yX7_changed : Cond) ∈ TB := tb_i (tc2 (List.mem_of_getElem? (i := 114) rfl)) rfl
set_option maxRecDepth 20000 in
theorem wd_207 : (.static yX7_changed : Cond) ∈ TB := tb_i (tc2 (List.mem_of_getElem? (i := 115) rfl)) rfl
set_option maxRecDepth 20000 in
theorem wd_208 : (.code yX7_changed cX7_changed 3 (some .boolean) : Cond) ∈ TB := tb_i (tc2 (List.mem_of_getElem? (i := 116) rfl)) rfl
set_option maxRecDepth 20000 in
theorem wd_209 : (.methodLink RL 37 yX8_limit : Cond) ∈ TB := tb_i (tc5 (List.mem_of_getElem? (i := 15) rfl)) rfl
set_option maxRecDepth 20000 in
theorem wd_210 : (.instanceMethod yX8_limit : Cond) ∈ TB := tb_i (tc5 (List.mem_of_getElem? (i := 16) rfl)) rfl
set_option maxRecDepth 20000 in
theorem wd_211 : (.selects RX8 yX8_limit yX8_limit : Cond) ∈ TB := tb_i (tc5 (List.mem_of_getElem? (i := 17) rfl)) rfl
set_option maxRecDepth 20000 in
theorem wd_212 : (.code yX8_limit cX8_limit 3 (some .boolean) : Cond) ∈ TB := tb_i (tc5 (List.mem_of_getElem? (i := 18) rfl)) rfl
set_option maxRecDepth 20000 in
theorem wd_213 : (.methodLink RL 38 yX7_sub : Cond) ∈ TB := tb_i (tc2 (List.mem_of_getElem? (i := 117) rfl)) rfl
set_option maxRecDepth 20000 in
theorem wd_214 : (.instanceMethod yX7_sub : Cond) ∈ TB := tb_i (tc2 (List.mem_of_getElem? (i := 118) rfl)) rfl
set_option maxRecDepth 20000 in
theorem wd_215 : (.selects RX7 yX7_sub yX7_sub : Cond) ∈ TB := tb_i (tc2 (List.mem_of_getElem? (i := 119) rfl)) rfl
set_option maxRecDepth 20000 in
theorem wd_216 : (.code yX7_sub cX7_sub 4 (some .boolean) : Cond) ∈ TB := tb_i (tc2 (List.mem_of_getElem? (i := 120) rfl)) rfl
set_option maxRecDepth 20000 in
theorem wd_217 : (.fieldLink RX7 94 "CoverRings$Book" "sublimits" "[I" : Cond) ∈ TB := tb_i (tc1 (List.mem_of_getElem? (i := 68) rfl)) rfl
set_option maxRecDepth 20000 in
theorem wd_218 : (.methodLink RX7 91 yX7_isItem : Cond) ∈ TB := tb_i (tc2 (List.mem_of_getElem? (i := 121) rfl)) rfl
set_option maxRecDepth 20000 in
theorem wd_219 : (.static yX7_isItem : Cond) ∈ TB := tb_i (tc2 (List.mem_of_getElem? (i := 122) rfl)) rfl
set_option maxRecDepth 20000 in
theorem wd_220 : (.code yX7_isItem cX7_isItem 1 (some .boolean) : Cond) ∈ TB := tb_i (tc2 (List.mem_of_getElem? (i := 123) rfl)) rfl
set_option maxRecDepth 20000 in
theorem wd_221 : (.methodLink RL 41 yX8_sub : Cond) ∈ TB := tb_i (tc5 (List.mem_of_getElem? (i := 19) rfl)) rfl
set_option maxRecDepth 20000 in
theorem wd_222 : (.instanceMethod yX8_sub : Cond) ∈ TB := tb_i (tc5 (List.mem_of_getElem? (i := 20) rfl)) rfl
set_option maxRecDepth 20000 in
theorem wd_223 : (.selects RX8 yX8_sub yX8_sub : Cond) ∈ TB := tb_i (tc5 (List.mem_of_getElem? (i := 21) rfl)) rfl
set_option maxRecDepth 20000 in
theorem wd_224 : (.code yX8_sub cX8_sub 4 (some .boolean) : Cond) ∈ TB := tb_i (tc5 (List.mem_of_getElem? (i := 22) rfl)) rfl
set_option maxRecDepth 20000 in
theorem wd_225 : (.constantLong RX8 149 (-1) : Cond) ∈ TB := tb_i (tc5 (List.mem_of_getElem? (i := 27) rfl)) rfl
set_option maxRecDepth 20000 in
theorem wd_226 : (.methodLink RX8 146 yX8_isItem : Cond) ∈ TB := tb_i (tc5 (List.mem_of_getElem? (i := 23) rfl)) rfl
set_option maxRecDepth 20000 in
theorem wd_227 : (.static yX8_isItem : Cond) ∈ TB := tb_i (tc5 (List.mem_of_getElem? (i := 24) rfl)) rfl
set_option maxRecDepth 20000 in
theorem wd_228 : (.code yX8_isItem cX8_isItem 1 (some .boolean) : Cond) ∈ TB := tb_i (tc5 (List.mem_of_getElem? (i := 25) rfl)) rfl
set_option maxRecDepth 20000 in
theorem wd_229 : (.constantLong RX8 130 (7) : Cond) ∈ TB := tb_i (tc5 (List.mem_of_getElem? (i := 26) rfl)) rfl
set_option maxRecDepth 20000 in
theorem wd_230 : (.methodLink RL 42 yX7_value : Cond) ∈ TB := tb_i (tc2 (List.mem_of_getElem? (i := 124) rfl)) rfl
set_option maxRecDepth 20000 in
theorem wd_231 : (.instanceMethod yX7_value : Cond) ∈ TB := tb_i (tc2 (List.mem_of_getElem? (i := 125) rfl)) rfl
set_option maxRecDepth 20000 in
theorem wd_232 : (.selects RX7 yX7_value yX7_value : Cond) ∈ TB := tb_i (tc2 (List.mem_of_getElem? (i := 126) rfl)) rfl
set_option maxRecDepth 20000 in
theorem wd_233 : (.code yX7_value cX7_value 4 (some .boolean) : Cond) ∈ TB := tb_i (tc2 (List.mem_of_getElem? (i := 127) rfl)) rfl
set_option maxRecDepth 20000 in
theorem wd_234 : (.fieldLink RX7 97 "CoverRings$Book" "worths" "[I" : Cond) ∈ TB := tb_i (tc1 (List.mem_of_getElem? (i := 71) rfl)) rfl
set_option maxRecDepth 20000 in
theorem wd_235 : (.fieldLink RX7 100 "CoverRings$Book" "premiums" "[I" : Cond) ∈ TB := tb_i (tc1 (List.mem_of_getElem? (i := 66) rfl)) rfl
set_option maxRecDepth 20000 in
theorem wd_236 : (.methodLink RL 46 yX8_value : Cond) ∈ TB := tb_i (tc5 (List.mem_of_getElem? (i := 28) rfl)) rfl
set_option maxRecDepth 20000 in
theorem wd_237 : (.instanceMethod yX8_value : Cond) ∈ TB := tb_i (tc5 (List.mem_of_getElem? (i := 29) rfl)) rfl
set_option maxRecDepth 20000 in
theorem wd_238 : (.selects RX8 yX8_value yX8_value : Cond) ∈ TB := tb_i (tc5 (List.mem_of_getElem? (i := 30) rfl)) rfl
set_option maxRecDepth 20000 in
theorem wd_239 : (.code yX8_value cX8_value 4 (some .boolean) : Cond) ∈ TB := tb_i (tc5 (List.mem_of_getElem? (i := 31) rfl)) rfl
set_option maxRecDepth 20000 in
theorem wd_240 : (.methodLink RL 47 yX7_loss : Cond) ∈ TB := tb_i (tc2 (List.mem_of_getElem? (i := 128) rfl)) rfl
set_option maxRecDepth 20000 in
theorem wd_241 : (.instanceMethod yX7_loss : Cond) ∈ TB := tb_i (tc2 (List.mem_of_getElem? (i := 129) rfl)) rfl
set_option maxRecDepth 20000 in
theorem wd_242 : (.selects RX7 yX7_loss yX7_loss : Cond) ∈ TB := tb_i (tc2 (List.mem_of_getElem? (i := 130) rfl)) rfl
set_option maxRecDepth 20000 in
theorem wd_243 : (.code yX7_loss cX7_loss 4 (some .int) : Cond) ∈ TB := tb_i (tc2 (List.mem_of_getElem? (i := 131) rfl)) rfl
set_option maxRecDepth 20000 in
theorem wd_244 : (.fieldLink RX7 103 "CoverRings$Book" "losses" "I" : Cond) ∈ TB := tb_i (tc1 (List.mem_of_getElem? (i := 81) rfl)) rfl
set_option maxRecDepth 20000 in
theorem wd_245 : (.fieldLink RX7 106 "CoverRings$Book" "lossItems" "[I" : Cond) ∈ TB := tb_i (tc1 (List.mem_of_getElem? (i := 74) rfl)) rfl
set_option maxRecDepth 20000 in
theorem wd_246 : (.fieldLink RX7 109 "CoverRings$Book" "amounts" "[I" : Cond) ∈ TB := tb_i (tc1 (List.mem_of_getElem? (i := 77) rfl)) rfl
set_option maxRecDepth 20000 in
theorem wd_247 : (.methodLink RL 50 yX8_loss : Cond) ∈ TB := tb_i (tc5 (List.mem_of_getElem? (i := 32) rfl)) rfl
set_option maxRecDepth 20000 in
theorem wd_248 : (.instanceMethod yX8_loss : Cond) ∈ TB := tb_i (tc5 (List.mem_of_getElem? (i := 33) rfl)) rfl
set_option maxRecDepth 20000 in
theorem wd_249 : (.selects RX8 yX8_loss yX8_loss : Cond) ∈ TB := tb_i (tc5 (List.mem_of_getElem? (i := 34) rfl)) rfl
set_option maxRecDepth 20000 in
theorem wd_250 : (.code yX8_loss cX8_loss 3 (some .int) : Cond) ∈ TB := tb_i (tc5 (List.mem_of_getElem? (i := 35) rfl)) rfl
set_option maxRecDepth 20000 in
theorem wd_251 : (.fieldLink RX8 127 "CoverRingsModel" "losses" "I" : Cond) ∈ TB := tb_i (tc4 (List.mem_of_getElem? (i := 107) rfl)) rfl
set_option maxRecDepth 20000 in
theorem wd_252 : (.methodLink RL 51 yX7_revoke : Cond) ∈ TB := tb_i (tc2 (List.mem_of_getElem? (i := 132) rfl)) rfl
set_option maxRecDepth 20000 in
theorem wd_253 : (.instanceMethod yX7_revoke : Cond) ∈ TB := tb_i (tc2 (List.mem_of_getElem? (i := 133) rfl)) rfl
set_option maxRecDepth 20000 in
theorem wd_254 : (.selects RX7 yX7_revoke yX7_revoke : Cond) ∈ TB := tb_i (tc2 (List.mem_of_getElem? (i := 134) rfl)) rfl
set_option maxRecDepth 20000 in
theorem wd_255 : (.code yX7_revoke cX7_revoke 1 (some .int) : Cond) ∈ TB := tb_i (tc2 (List.mem_of_getElem? (i := 135) rfl)) rfl
set_option maxRecDepth 20000 in
theorem wd_256 : (.methodLink RL 55 yX8_revoke : Cond) ∈ TB := tb_i (tc5 (List.mem_of_getElem? (i := 36) rfl)) rfl
set_option maxRecDepth 20000 in
theorem wd_257 : (.instanceMethod yX8_revoke : Cond) ∈ TB := tb_i (tc5 (List.mem_of_getElem? (i := 37) rfl)) rfl
set_option maxRecDepth 20000 in
theorem wd_258 : (.selects RX8 yX8_revoke yX8_revoke : Cond) ∈ TB := tb_i (tc5 (List.mem_of_getElem? (i := 38) rfl)) rfl
set_option maxRecDepth 20000 in
theorem wd_259 : (.code yX8_revoke cX8_revoke 1 (some .int) : Cond) ∈ TB := tb_i (tc5 (List.mem_of_getElem? (i := 39) rfl)) rfl
set_option maxRecDepth 20000 in
theorem wd_260 : (.methodLink RL 56 yX7_rule : Cond) ∈ TB := tb_i (tc2 (List.mem_of_getElem? (i := 136) rfl)) rfl
set_option maxRecDepth 20000 in
theorem wd_261 : (.instanceMethod yX7_rule : Cond) ∈ TB := tb_i (tc2 (List.mem_of_getElem? (i := 137) rfl)) rfl
set_option maxRecDepth 20000 in
theorem wd_262 : (.selects RX7 yX7_rule yX7_rule : Cond) ∈ TB := tb_i (tc2 (List.mem_of_getElem? (i := 138) rfl)) rfl
set_option maxRecDepth 20000 in
theorem wd_263 : (.code yX7_rule cX7_rule 1 (some .int) : Cond) ∈ TB := tb_i (tc2 (List.mem_of_getElem? (i := 139) rfl)) rfl
set_option maxRecDepth 20000 in
theorem wd_264 : (.fieldLink RX7 112 "CoverRings$Book" "rule" "I" : Cond) ∈ TB := tb_i (tc1 (List.mem_of_getElem? (i := 83) rfl)) rfl
set_option maxRecDepth 20000 in
theorem wd_265 : (.methodLink RL 59 yX8_rule : Cond) ∈ TB := tb_i (tc5 (List.mem_of_getElem? (i := 40) rfl)) rfl
set_option maxRecDepth 20000 in
theorem wd_266 : (.instanceMethod yX8_rule : Cond) ∈ TB := tb_i (tc5 (List.mem_of_getElem? (i := 41) rfl)) rfl
set_option maxRecDepth 20000 in
theorem wd_267 : (.selects RX8 yX8_rule yX8_rule : Cond) ∈ TB := tb_i (tc5 (List.mem_of_getElem? (i := 42) rfl)) rfl
set_option maxRecDepth 20000 in
theorem wd_268 : (.code yX8_rule cX8_rule 1 (some .int) : Cond) ∈ TB := tb_i (tc5 (List.mem_of_getElem? (i := 43) rfl)) rfl
set_option maxRecDepth 20000 in
theorem wd_269 : (.fieldLink RX8 151 "CoverRingsModel" "rule" "I" : Cond) ∈ TB := tb_i (tc4 (List.mem_of_getElem? (i := 110) rfl)) rfl
set_option maxRecDepth 20000 in
theorem wd_270 : (.methodLink RL 60 yX7_count : Cond) ∈ TB := tb_i (tc2 (List.mem_of_getElem? (i := 140) rfl)) rfl
set_option maxRecDepth 20000 in
theorem wd_271 : (.instanceMethod yX7_count : Cond) ∈ TB := tb_i (tc2 (List.mem_of_getElem? (i := 141) rfl)) rfl
set_option maxRecDepth 20000 in
theorem wd_272 : (.selects RX7 yX7_count yX7_count : Cond) ∈ TB := tb_i (tc2 (List.mem_of_getElem? (i := 142) rfl)) rfl
set_option maxRecDepth 20000 in
theorem wd_273 : (.code yX7_count cX7_count 2 (some .int) : Cond) ∈ TB := tb_i (tc2 (List.mem_of_getElem? (i := 143) rfl)) rfl
set_option maxRecDepth 20000 in
theorem wd_274 : (.fieldLink RX7 118 "CoverRings$Settlement" "allTotals" "I" : Cond) ∈ TB := tb_i (tc1 (List.mem_of_getElem? (i := 210) rfl)) rfl
set_option maxRecDepth 20000 in
theorem wd_275 : (.methodLink RX7 115 yX7_settleAll : Cond) ∈ TB := tb_i (tc2 (List.mem_of_getElem? (i := 144) rfl)) rfl
set_option maxRecDepth 20000 in
theorem wd_276 : (.instanceMethod yX7_settleAll : Cond) ∈ TB := tb_i (tc2 (List.mem_of_getElem? (i := 146) rfl)) rfl
set_option maxRecDepth 20000 in
theorem wd_277 : (.selects RX7 yX7_settleAll yX7_settleAll : Cond) ∈ TB := tb_i (tps (q := (⟨"CoverRings", "settleAll", "()V"⟩, 6)) (List.mem_append_left _ (List.mem_of_getElem? (i := 1) rfl))) rfl
set_option maxRecDepth 20000 in
theorem wd_278 : (.code yX7_settleAll cX7_settleAll 1 none : Cond) ∈ TB := tb_i (tc2 (List.mem_of_getElem? (i := 147) rfl)) rfl
set_option maxRecDepth 20000 in
theorem wd_279 : (.methodLink RX7 287 yX4_asBooked : Cond) ∈ TB := tb_i (tc2 (List.mem_of_getElem? (i := 148) rfl)) rfl
set_option maxRecDepth 20000 in
theorem wd_280 : (.instanceMethod yX4_asBooked : Cond) ∈ TB := tb_i (tc2 (List.mem_of_getElem? (i := 149) rfl)) rfl
set_option maxRecDepth 20000 in
theorem wd_281 : (.selects RX4 yX4_asBooked yX4_asBooked : Cond) ∈ TB := tb_i (tc2 (List.mem_of_getElem? (i := 150) rfl)) rfl
set_option maxRecDepth 20000 in
theorem wd_282 : (.code yX4_asBooked cX4_asBooked 1 none : Cond) ∈ TB := tb_i (tc2 (List.mem_of_getElem? (i := 151) rfl)) rfl
set_option maxRecDepth 20000 in
theorem wd_283 : (.fieldLink RX4 58 "CoverRings$Settlement" "present" "I" : Cond) ∈ TB := tb_i (tc1 (List.mem_of_getElem? (i := 189) rfl)) rfl
set_option maxRecDepth 20000 in
theorem wd_284 : (.fieldLink RX4 62 "CoverRings$Book" "rule" "I" : Cond) ∈ TB := tb_i (tc1 (List.mem_of_getElem? (i := 82) rfl)) rfl
set_option maxRecDepth 20000 in
theorem wd_285 : (.fieldLink RX4 65 "CoverRings$Settlement" "rule" "I" : Cond) ∈ TB := tb_i (tc1 (List.mem_of_getElem? (i := 191) rfl)) rfl
set_option maxRecDepth 20000 in
theorem wd_286 : (.fieldLink RX4 66 "CoverRings$Book" "kinds" "[I" : Cond) ∈ TB := tb_i (tc1 (List.mem_of_getElem? (i := 60) rfl)) rfl
set_option maxRecDepth 20000 in
theorem wd_287 : (.fieldLink RX4 69 "CoverRings$Web" "kinds" "[I" : Cond) ∈ TB := tb_i (tc1 (List.mem_of_getElem? (i := 123) rfl)) rfl
set_option maxRecDepth 20000 in
theorem wd_288 : (.methodLink RX4 70 arraycopyName : Cond) ∈ TB := tb_i (tc2 (List.mem_of_getElem? (i := 156) rfl)) rfl
set_option maxRecDepth 20000 in
theorem wd_289 : (.native arraycopyName : Cond) ∈ TB := tb_i (tc2 (List.mem_of_getElem? (i := 158) rfl)) rfl
set_option maxRecDepth 20000 in
theorem wd_290 : (.static arraycopyName : Cond) ∈ TB := tb_i (tc2 (List.mem_of_getElem? (i := 157) rfl)) rfl
set_option maxRecDepth 20000 in
theorem wd_291 : (.initialized "java/lang/System" : Cond) ∈ TB := tb_i (tc1 (List.mem_of_getElem? (i := 11) rfl)) rfl
set_option maxRecDepth 20000 in
theorem wd_292 : (.methodLink RX4 54 yX0_everyone : Cond) ∈ TB := tb_i (tc2 (List.mem_of_getElem? (i := 152) rfl)) rfl
set_option maxRecDepth 20000 in
theorem wd_293 : (.instanceMethod yX0_everyone : Cond) ∈ TB := tb_i (tc2 (List.mem_of_getElem? (i := 153) rfl)) rfl
set_option maxRecDepth 20000 in
theorem wd_294 : (.selects RX0 yX0_everyone yX0_everyone : Cond) ∈ TB := tb_i (tc2 (List.mem_of_getElem? (i := 154) rfl)) rfl
set_option maxRecDepth 20000 in
theorem wd_295 : (.code yX0_everyone cX0_everyone 1 (some .int) : Cond) ∈ TB := tb_i (tc2 (List.mem_of_getElem? (i := 155) rfl)) rfl
set_option maxRecDepth 20000 in
theorem wd_296 : (.fieldLink RX0 54 "CoverRings$Book" "policies" "I" : Cond) ∈ TB := tb_i (tc1 (List.mem_of_getElem? (i := 78) rfl)) rfl
set_option maxRecDepth 20000 in
theorem wd_297 : (.methodLink RX7 291 yX4_through : Cond) ∈ TB := tb_i (tc2 (List.mem_of_getElem? (i := 159) rfl)) rfl
set_option maxRecDepth 20000 in
theorem wd_298 : (.instanceMethod yX4_through : Cond) ∈ TB := tb_i (tc2 (List.mem_of_getElem? (i := 160) rfl)) rfl
set_option maxRecDepth 20000 in
theorem wd_299 : (.selects RX4 yX4_through yX4_through : Cond) ∈ TB := tb_i (tc2 (List.mem_of_getElem? (i := 161) rfl)) rfl
set_option maxRecDepth 20000 in
theorem wd_300 : (.code yX4_through cX4_through 4 none : Cond) ∈ TB := tb_i (tc2 (List.mem_of_getElem? (i := 162) rfl)) rfl
set_option maxRecDepth 20000 in
theorem wd_301 : (.fieldLink RX4 76 "CoverRings$Book" "aggregates" "[I" : Cond) ∈ TB := tb_i (tc1 (List.mem_of_getElem? (i := 49) rfl)) rfl
set_option maxRecDepth 20000 in
theorem wd_302 : (.fieldLink RX4 85 "CoverRings$Settlement" "allTotals" "I" : Cond) ∈ TB := tb_i (tc1 (List.mem_of_getElem? (i := 209) rfl)) rfl
set_option maxRecDepth 20000 in
theorem wd_303 : (.fieldLink RX4 88 "CoverRings$Book" "lossItems" "[I" : Cond) ∈ TB := tb_i (tc1 (List.mem_of_getElem? (i := 73) rfl)) rfl
set_option maxRecDepth 20000 in
theorem wd_304 : (.fieldLink RX4 91 "CoverRings$Book" "amounts" "[I" : Cond) ∈ TB := tb_i (tc1 (List.mem_of_getElem? (i := 76) rfl)) rfl
set_option maxRecDepth 20000 in
theorem wd_305 : (.fieldLink RX4 98 "CoverRings$Book" "tos" "[I" : Cond) ∈ TB := tb_i (tc1 (List.mem_of_getElem? (i := 64) rfl)) rfl
set_option maxRecDepth 20000 in
theorem wd_306 : (.methodLink RX4 79 yJ7_fill_53178 : Cond) ∈ TB := tb_i (tc2 (List.mem_of_getElem? (i := 163) rfl)) rfl
set_option maxRecDepth 20000 in
theorem wd_307 : (.methodLink RX4 94 yX4_standAlone : Cond) ∈ TB := tb_i (tc2 (List.mem_of_getElem? (i := 164) rfl)) rfl
set_option maxRecDepth 20000 in
theorem wd_308 : (.instanceMethod yX4_standAlone : Cond) ∈ TB := tb_i (tc2 (List.mem_of_getElem? (i := 166) rfl)) rfl
set_option maxRecDepth 20000 in
theorem wd_309 : (.selects RX4 yX4_standAlone yX4_standAlone : Cond) ∈ TB := tb_i (tps (q := (⟨"CoverRings$Settlement", "standAlone", "(II)I"⟩, 14)) (List.mem_append_left _ (List.mem_of_getElem? (i := 2) rfl))) rfl
set_option maxRecDepth 20000 in
theorem wd_310 : (.code yX4_standAlone cX4_standAlone 5 (some .int) : Cond) ∈ TB := tb_i (tc2 (List.mem_of_getElem? (i := 167) rfl)) rfl
set_option maxRecDepth 20000 in
theorem wd_311 : (.static yX7_has : Cond) ∈ TB := tb_i (tc2 (List.mem_of_getElem? (i := 169) rfl)) rfl
set_option maxRecDepth 20000 in
theorem wd_312 : (.code yX7_has cX7_has 2 (some .boolean) : Cond) ∈ TB := tb_i (tc2 (List.mem_of_getElem? (i := 170) rfl)) rfl
set_option maxRecDepth 20000 in
theorem wd_313 : (.methodLink RX4 117 yX4_owed : Cond) ∈ TB := tb_i (tc2 (List.mem_of_getElem? (i := 171) rfl)) rfl
set_option maxRecDepth 20000 in
theorem wd_314 : (.instanceMethod yX4_owed : Cond) ∈ TB := tb_i (tc2 (List.mem_of_getElem? (i := 173) rfl)) rfl
set_option maxRecDepth 20000 in
theorem wd_315 : (.selects RX4 yX4_owed yX4_owed : Cond) ∈ TB := tb_i (tps (q := (⟨"CoverRings$Settlement", "owed", "(III)I"⟩, 14)) (List.mem_append_left _ (List.mem_of_getElem? (i := 3) rfl))) rfl
set_option maxRecDepth 20000 in
theorem wd_316 : (.code yX4_owed cX4_owed 8 (some .int) : Cond) ∈ TB := tb_i (tc2 (List.mem_of_getElem? (i := 174) rfl)) rfl
set_option maxRecDepth 20000 in
theorem wd_317 : (.fieldLink RX4 121 "CoverRings$Book" "items" "[I" : Cond) ∈ TB := tb_i (tc1 (List.mem_of_getElem? (i := 58) rfl)) rfl
set_option maxRecDepth 20000 in
theorem wd_318 : (.fieldLink RX4 124 "CoverRings$Book" "limits" "[I" : Cond) ∈ TB := tb_i (tc1 (List.mem_of_getElem? (i := 46) rfl)) rfl
set_option maxRecDepth 20000 in
theorem wd_319 : (.fieldLink RX4 127 "CoverRings$Book" "values" "[I" : Cond) ∈ TB := tb_i (tc1 (List.mem_of_getElem? (i := 55) rfl)) rfl
set_option maxRecDepth 20000 in
theorem wd_320 : (.fieldLink RX4 130 "CoverRings$Book" "sublimits" "[I" : Cond) ∈ TB := tb_i (tc1 (List.mem_of_getElem? (i := 69) rfl)) rfl
set_option maxRecDepth 20000 in
theorem wd_321 : (.fieldLink RX4 133 "CoverRings$Book" "deductibles" "[I" : Cond) ∈ TB := tb_i (tc1 (List.mem_of_getElem? (i := 52) rfl)) rfl
set_option maxRecDepth 20000 in
theorem wd_322 : (.methodLink RX4 136 Lib.Math.max.name : Cond) ∈ TB := tb_i (tc2 (List.mem_of_getElem? (i := 175) rfl)) rfl
set_option maxRecDepth 20000 in
theorem wd_323 : (.static Lib.Math.max.name : Cond) ∈ TB := tb_i (tc2 (List.mem_of_getElem? (i := 176) rfl)) rfl
set_option maxRecDepth 20000 in
theorem wd_324 : (.initialized "java/lang/Math" : Cond) ∈ TB := tb_i (tc1 (List.mem_of_getElem? (i := 12) rfl)) rfl
set_option maxRecDepth 20000 in
theorem wd_325 : (.code Lib.Math.max.name Lib.Math.max.code 2 (some .int) : Cond) ∈ TB := tb_i (tc2 (List.mem_of_getElem? (i := 177) rfl)) rfl
set_option maxRecDepth 20000 in
theorem wd_326 : (.methodLink RX4 141 Lib.Math.min.name : Cond) ∈ TB := tb_i (tc2 (List.mem_of_getElem? (i := 178) rfl)) rfl
set_option maxRecDepth 20000 in
theorem wd_327 : (.static Lib.Math.min.name : Cond) ∈ TB := tb_i (tc2 (List.mem_of_getElem? (i := 179) rfl)) rfl
set_option maxRecDepth 20000 in
theorem wd_328 : (.code Lib.Math.min.name Lib.Math.min.code 2 (some .int) : Cond) ∈ TB := tb_i (tc2 (List.mem_of_getElem? (i := 180) rfl)) rfl
set_option maxRecDepth 20000 in
theorem wd_329 : (.methodLink RX4 101 yX6_weave : Cond) ∈ TB := tb_i (tc2 (List.mem_of_getElem? (i := 181) rfl)) rfl
set_option maxRecDepth 20000 in
theorem wd_330 : (.instanceMethod yX6_weave : Cond) ∈ TB := tb_i (tc2 (List.mem_of_getElem? (i := 182) rfl)) rfl
set_option maxRecDepth 20000 in
theorem wd_331 : (.selects RX6 yX6_weave yX6_weave : Cond) ∈ TB := tb_i (tc2 (List.mem_of_getElem? (i := 183) rfl)) rfl
set_option maxRecDepth 20000 in
theorem wd_332 : (.code yX6_weave cX6_weave 5 none : Cond) ∈ TB := tb_i (tc2 (List.mem_of_getElem? (i := 184) rfl)) rfl
set_option maxRecDepth 20000 in
theorem wd_333 : (.fieldLink RX6 30 "CoverRings$Web" "in" "I" : Cond) ∈ TB := tb_i (tc1 (List.mem_of_getElem? (i := 135) rfl)) rfl
set_option maxRecDepth 20000 in
theorem wd_334 : (.methodLink RX6 38 yX6_findRings : Cond) ∈ TB := tb_i (tc2 (List.mem_of_getElem? (i := 186) rfl)) rfl
set_option maxRecDepth 20000 in
theorem wd_335 : (.instanceMethod yX6_findRings : Cond) ∈ TB := tb_i (tc2 (List.mem_of_getElem? (i := 188) rfl)) rfl
set_option maxRecDepth 20000 in
theorem wd_336 : (.selects RX6 yX6_findRings yX6_findRings : Cond) ∈ TB := tb_i (tps (q := (⟨"CoverRings$Web", "findRings", "()V"⟩, 9)) (List.mem_append_left _ (List.mem_of_getElem? (i := 4) rfl))) rfl
set_option maxRecDepth 20000 in
theorem wd_337 : (.code yX6_findRings cX6_findRings 4 none : Cond) ∈ TB := tb_i (tc2 (List.mem_of_getElem? (i := 189) rfl)) rfl
set_option maxRecDepth 20000 in
theorem wd_338 : (.methodLink RX6 41 yX6_findLevels : Cond) ∈ TB := tb_i (tc2 (List.mem_of_getElem? (i := 190) rfl)) rfl
set_option maxRecDepth 20000 in
theorem wd_339 : (.instanceMethod yX6_findLevels : Cond) ∈ TB := tb_i (tc2 (List.mem_of_getElem? (i := 192) rfl)) rfl
set_option maxRecDepth 20000 in
theorem wd_340 : (.selects RX6 yX6_findLevels yX6_findLevels : Cond) ∈ TB := tb_i (tps (q := (⟨"CoverRings$Web", "findLevels", "()V"⟩, 9)) (List.mem_append_left _ (List.mem_of_getElem? (i := 5) rfl))) rfl
set_option maxRecDepth 20000 in
theorem wd_341 : (.code yX6_findLevels cX6_findLevels 4 none : Cond) ∈ TB := tb_i (tc2 (List.mem_of_getElem? (i := 193) rfl)) rfl
set_option maxRecDepth 20000 in
theorem wd_342 : (.fieldLink RX6 50 "CoverRings$Web" "out" "I" : Cond) ∈ TB := tb_i (tc1 (List.mem_of_getElem? (i := 137) rfl)) rfl
set_option maxRecDepth 20000 in
theorem wd_343 : (.fieldLink RX6 53 "CoverRings$Web" "levels" "I" : Cond) ∈ TB := tb_i (tc1 (List.mem_of_getElem? (i := 140) rfl)) rfl
set_option maxRecDepth 20000 in
theorem wd_344 : (.methodLink RX6 44 yJ7_fill_53178 : Cond) ∈ TB := tb_i (tc2 (List.mem_of_getElem? (i := 194) rfl)) rfl
set_option maxRecDepth 20000 in
theorem wd_345 : (.methodLink RX6 56 yX6_trueYields : Cond) ∈ TB := tb_i (tc2 (List.mem_of_getElem? (i := 195) rfl)) rfl
set_option maxRecDepth 20000 in
theorem wd_346 : (.instanceMethod yX6_trueYields : Cond) ∈ TB := tb_i (tc2 (List.mem_of_getElem? (i := 196) rfl)) rfl
set_option maxRecDepth 20000 in
theorem wd_347 : (.selects RX6 yX6_trueYields yX6_trueYields : Cond) ∈ TB := tb_i (tc2 (List.mem_of_getElem? (i := 197) rfl)) rfl
set_option maxRecDepth 20000 in
theorem wd_348 : (.code yX6_trueYields cX6_trueYields 2 (some .int) : Cond) ∈ TB := tb_i (tc2 (List.mem_of_getElem? (i := 198) rfl)) rfl
set_option maxRecDepth 20000 in
theorem wd_349 : (.methodLink RX4 105 yX4_shareOut : Cond) ∈ TB := tb_i (tc2 (List.mem_of_getElem? (i := 199) rfl)) rfl
set_option maxRecDepth 20000 in
theorem wd_350 : (.instanceMethod yX4_shareOut : Cond) ∈ TB := tb_i (tc2 (List.mem_of_getElem? (i := 201) rfl)) rfl
set_option maxRecDepth 20000 in
theorem wd_351 : (.selects RX4 yX4_shareOut yX4_shareOut : Cond) ∈ TB := tb_i (tps (q := (⟨"CoverRings$Settlement", "shareOut", "(II)V"⟩, 14)) (List.mem_append_left _ (List.mem_of_getElem? (i := 6) rfl))) rfl
set_option maxRecDepth 20000 in
theorem wd_352 : (.code yX4_shareOut cX4_shareOut 8 none : Cond) ∈ TB := tb_i (tc2 (List.mem_of_getElem? (i := 202) rfl)) rfl
set_option maxRecDepth 20000 in
theorem wd_353 : (.fieldLink RX4 144 "CoverRings$Web" "levels" "I" : Cond) ∈ TB := tb_i (tc1 (List.mem_of_getElem? (i := 141) rfl)) rfl
set_option maxRecDepth 20000 in
theorem wd_354 : (.fieldLink RX4 147 "CoverRings$Web" "levelSets" "[I" : Cond) ∈ TB := tb_i (tc1 (List.mem_of_getElem? (i := 133) rfl)) rfl
set_option maxRecDepth 20000 in
theorem wd_355 : (.fieldLink RX4 150 "CoverRings$Web" "out" "I" : Cond) ∈ TB := tb_i (tc1 (List.mem_of_getElem? (i := 138) rfl)) rfl
set_option maxRecDepth 20000 in
theorem wd_356 : (.fieldLink RX4 156 "CoverRings$Divider" "caps" "[I" : Cond) ∈ TB := tb_i (tc1 (List.mem_of_getElem? (i := 170) rfl)) rfl
set_option maxRecDepth 20000 in
theorem wd_357 : (.fieldLink RX4 163 "CoverRings$Divider" "parts" "[I" : Cond) ∈ TB := tb_i (tc1 (List.mem_of_getElem? (i := 172) rfl)) rfl
set_option maxRecDepth 20000 in
theorem wd_358 : (.fieldLink RX4 166 "CoverRings$Settlement" "total" "I" : Cond) ∈ TB := tb_i (tc1 (List.mem_of_getElem? (i := 207) rfl)) rfl
set_option maxRecDepth 20000 in
theorem wd_359 : (.methodLink RX4 153 yX2_clear : Cond) ∈ TB := tb_i (tc2 (List.mem_of_getElem? (i := 203) rfl)) rfl
set_option maxRecDepth 20000 in
theorem wd_360 : (.instanceMethod yX2_clear : Cond) ∈ TB := tb_i (tc2 (List.mem_of_getElem? (i := 204) rfl)) rfl
set_option maxRecDepth 20000 in
theorem wd_361 : (.selects RX2 yX2_clear yX2_clear : Cond) ∈ TB := tb_i (tc2 (List.mem_of_getElem? (i := 205) rfl)) rfl
set_option maxRecDepth 20000 in
theorem wd_362 : (.code yX2_clear cX2_clear 1 none : Cond) ∈ TB := tb_i (tc2 (List.mem_of_getElem? (i := 206) rfl)) rfl
set_option maxRecDepth 20000 in
theorem wd_363 : (.methodLink RX2 22 yJ7_fill_53178 : Cond) ∈ TB := tb_i (tc2 (List.mem_of_getElem? (i := 207) rfl)) rfl
set_option maxRecDepth 20000 in
theorem wd_364 : (.methodLink RX4 157 yX2_capsTogether : Cond) ∈ TB := tb_i (tc2 (List.mem_of_getElem? (i := 208) rfl)) rfl
set_option maxRecDepth 20000 in
theorem wd_365 : (.instanceMethod yX2_capsTogether : Cond) ∈ TB := tb_i (tc2 (List.mem_of_getElem? (i := 209) rfl)) rfl
set_option maxRecDepth 20000 in
theorem wd_366 : (.selects RX2 yX2_capsTogether yX2_capsTogether : Cond) ∈ TB := tb_i (tc2 (List.mem_of_getElem? (i := 210) rfl)) rfl
set_option maxRecDepth 20000 in
theorem wd_367 : (.code yX2_capsTogether cX2_capsTogether 3 (some .int) : Cond) ∈ TB := tb_i (tc2 (List.mem_of_getElem? (i := 211) rfl)) rfl
set_option maxRecDepth 20000 in
theorem wd_368 : (.methodLink RX4 160 yX2_divide : Cond) ∈ TB := tb_i (tc2 (List.mem_of_getElem? (i := 212) rfl)) rfl
set_option maxRecDepth 20000 in
theorem wd_369 : (.instanceMethod yX2_divide : Cond) ∈ TB := tb_i (tc2 (List.mem_of_getElem? (i := 213) rfl)) rfl
set_option maxRecDepth 20000 in
theorem wd_370 : (.selects RX2 yX2_divide yX2_divide : Cond) ∈ TB := tb_i (tc2 (List.mem_of_getElem? (i := 214) rfl)) rfl
set_option maxRecDepth 20000 in
theorem wd_371 : (.code yX2_divide cX2_divide 3 none : Cond) ∈ TB := tb_i (tc2 (List.mem_of_getElem? (i := 215) rfl)) rfl
set_option maxRecDepth 20000 in
theorem wd_372 : (.methodLink RX2 28 yX2_divideByCaps : Cond) ∈ TB := tb_i (tc2 (List.mem_of_getElem? (i := 216) rfl)) rfl
set_option maxRecDepth 20000 in
theorem wd_373 : (.instanceMethod yX2_divideByCaps : Cond) ∈ TB := tb_i (tc2 (List.mem_of_getElem? (i := 218) rfl)) rfl
set_option maxRecDepth 20000 in
theorem wd_374 : (.selects RX2 yX2_divideByCaps yX2_divideByCaps : Cond) ∈ TB := tb_i (tps (q := (⟨"CoverRings$Divider", "divideByCaps", "(I)V"⟩, 3)) (List.mem_append_left _ (List.mem_of_getElem? (i := 7) rfl))) rfl
set_option maxRecDepth 20000 in
theorem wd_375 : (.code yX2_divideByCaps cX2_divideByCaps 8 none : Cond) ∈ TB := tb_i (tc2 (List.mem_of_getElem? (i := 219) rfl)) rfl
set_option maxRecDepth 20000 in
theorem wd_376 : (.methodLink RX2 35 yX2_capsTogether : Cond) ∈ TB := tb_i (tc2 (List.mem_of_getElem? (i := 220) rfl)) rfl
set_option maxRecDepth 20000 in
theorem wd_377 : (.methodLink RX2 39 yX2_mostLost : Cond) ∈ TB := tb_i (tc2 (List.mem_of_getElem? (i := 221) rfl)) rfl
set_option maxRecDepth 20000 in
theorem wd_378 : (.instanceMethod yX2_mostLost : Cond) ∈ TB := tb_i (tc2 (List.mem_of_getElem? (i := 223) rfl)) rfl
set_option maxRecDepth 20000 in
theorem wd_379 : (.selects RX2 yX2_mostLost yX2_mostLost : Cond) ∈ TB := tb_i (tps (q := (⟨"CoverRings$Divider", "mostLost", "()I"⟩, 3)) (List.mem_append_left _ (List.mem_of_getElem? (i := 8) rfl))) rfl
set_option maxRecDepth 20000 in
theorem wd_380 : (.code yX2_mostLost cX2_mostLost 3 (some .int) : Cond) ∈ TB := tb_i (tc2 (List.mem_of_getElem? (i := 224) rfl)) rfl
set_option maxRecDepth 20000 in
theorem wd_381 : (.methodLink RX2 32 yX2_divideInSteps : Cond) ∈ TB := tb_i (tc2 (List.mem_of_getElem? (i := 225) rfl)) rfl
set_option maxRecDepth 20000 in
theorem wd_382 : (.instanceMethod yX2_divideInSteps : Cond) ∈ TB := tb_i (tc2 (List.mem_of_getElem? (i := 227) rfl)) rfl
set_option maxRecDepth 20000 in
theorem wd_383 : (.selects RX2 yX2_divideInSteps yX2_divideInSteps : Cond) ∈ TB := tb_i (tps (q := (⟨"CoverRings$Divider", "divideInSteps", "(I)V"⟩, 3)) (List.mem_append_left _ (List.mem_of_getElem? (i := 9) rfl))) rfl
set_option maxRecDepth 20000 in
theorem wd_384 : (.code yX2_divideInSteps cX2_divideInSteps 5 none : Cond) ∈ TB := tb_i (tc2 (List.mem_of_getElem? (i := 228) rfl)) rfl
set_option maxRecDepth 20000 in
theorem wd_385 : (.methodLink RX2 46 Lib.Math.min.name : Cond) ∈ TB := tb_i (tc2 (List.mem_of_getElem? (i := 233) rfl)) rfl
set_option maxRecDepth 20000 in
theorem wd_386 : (.methodLink RX2 42 yX2_height : Cond) ∈ TB := tb_i (tc2 (List.mem_of_getElem? (i := 229) rfl)) rfl
set_option maxRecDepth 20000 in
theorem wd_387 : (.instanceMethod yX2_height : Cond) ∈ TB := tb_i (tc2 (List.mem_of_getElem? (i := 230) rfl)) rfl
set_option maxRecDepth 20000 in
theorem wd_388 : (.selects RX2 yX2_height yX2_height : Cond) ∈ TB := tb_i (tc2 (List.mem_of_getElem? (i := 231) rfl)) rfl
set_option maxRecDepth 20000 in
theorem wd_389 : (.code yX2_height cX2_height 10 (some .int) : Cond) ∈ TB := tb_i (tc2 (List.mem_of_getElem? (i := 232) rfl)) rfl
set_option maxRecDepth 20000 in
theorem wd_390 : (.methodLink RX4 109 yX4_useUp : Cond) ∈ TB := tb_i (tc2 (List.mem_of_getElem? (i := 234) rfl)) rfl
set_option maxRecDepth 20000 in
theorem wd_391 : (.instanceMethod yX4_useUp : Cond) ∈ TB := tb_i (tc2 (List.mem_of_getElem? (i := 236) rfl)) rfl
set_option maxRecDepth 20000 in
theorem wd_392 : (.selects RX4 yX4_useUp yX4_useUp : Cond) ∈ TB := tb_i (tps (q := (⟨"CoverRings$Settlement", "useUp", "(I)V"⟩, 14)) (List.mem_append_left _ (List.mem_of_getElem? (i := 10) rfl))) rfl
set_option maxRecDepth 20000 in
theorem wd_393 : (.code yX4_useUp cX4_useUp 3 none : Cond) ∈ TB := tb_i (tc2 (List.mem_of_getElem? (i := 237) rfl)) rfl
set_option maxRecDepth 20000 in
theorem wd_394 : (.methodLink RX7 121 yX0_amountsTogether : Cond) ∈ TB := tb_i (tc2 (List.mem_of_getElem? (i := 238) rfl)) rfl
set_option maxRecDepth 20000 in
theorem wd_395 : (.instanceMethod yX0_amountsTogether : Cond) ∈ TB := tb_i (tc2 (List.mem_of_getElem? (i := 239) rfl)) rfl
set_option maxRecDepth 20000 in
theorem wd_396 : (.selects RX0 yX0_amountsTogether yX0_amountsTogether : Cond) ∈ TB := tb_i (tc3 (List.mem_of_getElem? (i := 0) rfl)) rfl
set_option maxRecDepth 20000 in
theorem wd_397 : (.code yX0_amountsTogether cX0_amountsTogether 3 (some .int) : Cond) ∈ TB := tb_i (tc3 (List.mem_of_getElem? (i := 1) rfl)) rfl
set_option maxRecDepth 20000 in
theorem wd_398 : (.fieldLink RX0 58 "CoverRings$Book" "losses" "I" : Cond) ∈ TB := tb_i (tc1 (List.mem_of_getElem? (i := 80) rfl)) rfl
set_option maxRecDepth 20000 in
theorem wd_399 : (.methodLink RX7 125 yX4_usedUp : Cond) ∈ TB := tb_i (tc3 (List.mem_of_getElem? (i := 2) rfl)) rfl
set_option maxRecDepth 20000 in
theorem wd_400 : (.instanceMethod yX4_usedUp : Cond) ∈ TB := tb_i (tc3 (List.mem_of_getElem? (i := 3) rfl)) rfl
set_option maxRecDepth 20000 in
theorem wd_401 : (.selects RX4 yX4_usedUp yX4_usedUp : Cond) ∈ TB := tb_i (tc3 (List.mem_of_getElem? (i := 4) rfl)) rfl
set_option maxRecDepth 20000 in
theorem wd_402 : (.code yX4_usedUp cX4_usedUp 3 (some .int) : Cond) ∈ TB := tb_i (tc3 (List.mem_of_getElem? (i := 5) rfl)) rfl
set_option maxRecDepth 20000 in
theorem wd_403 : (.methodLink RL 64 yX8_count : Cond) ∈ TB := tb_i (tc5 (List.mem_of_getElem? (i := 44) rfl)) rfl
set_option maxRecDepth 20000 in
theorem wd_404 : (.instanceMethod yX8_count : Cond) ∈ TB := tb_i (tc5 (List.mem_of_getElem? (i := 45) rfl)) rfl
set_option maxRecDepth 20000 in
theorem wd_405 : (.selects RX8 yX8_count yX8_count : Cond) ∈ TB := tb_i (tc5 (List.mem_of_getElem? (i := 46) rfl)) rfl
set_option maxRecDepth 20000 in
theorem wd_406 : (.code yX8_count cX8_count 2 (some .int) : Cond) ∈ TB := tb_i (tc5 (List.mem_of_getElem? (i := 47) rfl)) rfl
set_option maxRecDepth 20000 in
theorem wd_407 : (.methodLink RX8 228 yX8_allTotals : Cond) ∈ TB := tb_i (tc5 (List.mem_of_getElem? (i := 48) rfl)) rfl
set_option maxRecDepth 20000 in
theorem wd_408 : (.instanceMethod yX8_allTotals : Cond) ∈ TB := tb_i (tc5 (List.mem_of_getElem? (i := 50) rfl)) rfl
set_option maxRecDepth 20000 in
theorem wd_409 : (.selects RX8 yX8_allTotals yX8_allTotals : Cond) ∈ TB := tb_i (tps (q := (⟨"CoverRingsModel", "allTotals", "()I"⟩, 46)) (List.mem_append_right _ (List.mem_append_left _ (List.mem_of_getElem? (i := 11) rfl)))) rfl
set_option maxRecDepth 20000 in
theorem wd_410 : (.code yX8_allTotals cX8_allTotals 3 (some .int) : Cond) ∈ TB := tb_i (tc5 (List.mem_of_getElem? (i := 51) rfl)) rfl
set_option maxRecDepth 20000 in
theorem wd_411 : (.fieldLink RX8 201 "CoverRingsModel" "there" "I" : Cond) ∈ TB := tb_i (tc4 (List.mem_of_getElem? (i := 114) rfl)) rfl
set_option maxRecDepth 20000 in
theorem wd_412 : (.fieldLink RX8 198 "CoverRingsModel" "total" "I" : Cond) ∈ TB := tb_i (tc4 (List.mem_of_getElem? (i := 128) rfl)) rfl
set_option maxRecDepth 20000 in
theorem wd_413 : (.methodLink RX8 220 yX8_all : Cond) ∈ TB := tb_i (tc5 (List.mem_of_getElem? (i := 52) rfl)) rfl
set_option maxRecDepth 20000 in
theorem wd_414 : (.instanceMethod yX8_all : Cond) ∈ TB := tb_i (tc5 (List.mem_of_getElem? (i := 54) rfl)) rfl
set_option maxRecDepth 20000 in
theorem wd_415 : (.selects RX8 yX8_all yX8_all : Cond) ∈ TB := tb_i (tps (q := (⟨"CoverRingsModel", "all", "()I"⟩, 46)) (List.mem_append_right _ (List.mem_append_left _ (List.mem_of_getElem? (i := 12) rfl)))) rfl
set_option maxRecDepth 20000 in
theorem wd_416 : (.code yX8_all cX8_all 1 (some .int) : Cond) ∈ TB := tb_i (tc5 (List.mem_of_getElem? (i := 55) rfl)) rfl
set_option maxRecDepth 20000 in
theorem wd_417 : (.methodLink RX8 217 yX8_settles : Cond) ∈ TB := tb_i (tc5 (List.mem_of_getElem? (i := 56) rfl)) rfl
set_option maxRecDepth 20000 in
theorem wd_418 : (.instanceMethod yX8_settles : Cond) ∈ TB := tb_i (tc5 (List.mem_of_getElem? (i := 58) rfl)) rfl
set_option maxRecDepth 20000 in
theorem wd_419 : (.selects RX8 yX8_settles yX8_settles : Cond) ∈ TB := tb_i (tps (q := (⟨"CoverRingsModel", "settles", "(I)V"⟩, 46)) (List.mem_append_right _ (List.mem_append_left _ (List.mem_of_getElem? (i := 13) rfl)))) rfl
set_option maxRecDepth 20000 in
theorem wd_420 : (.code yX8_settles cX8_settles 3 none : Cond) ∈ TB := tb_i (tc5 (List.mem_of_getElem? (i := 59) rfl)) rfl
set_option maxRecDepth 20000 in
theorem wd_421 : (.fieldLink RX8 162 "CoverRingsModel" "inside" "I" : Cond) ∈ TB := tb_i (tc4 (List.mem_of_getElem? (i := 125) rfl)) rfl
set_option maxRecDepth 20000 in
theorem wd_422 : (.fieldLink RX8 165 "CoverRingsModel" "levels" "I" : Cond) ∈ TB := tb_i (tc4 (List.mem_of_getElem? (i := 127) rfl)) rfl
set_option maxRecDepth 20000 in
theorem wd_423 : (.methodLink RX8 154 yX8_isOn : Cond) ∈ TB := tb_i (tc5 (List.mem_of_getElem? (i := 60) rfl)) rfl
set_option maxRecDepth 20000 in
theorem wd_424 : (.static yX8_isOn : Cond) ∈ TB := tb_i (tc5 (List.mem_of_getElem? (i := 61) rfl)) rfl
set_option maxRecDepth 20000 in
theorem wd_425 : (.code yX8_isOn cX8_isOn 2 (some .boolean) : Cond) ∈ TB := tb_i (tc5 (List.mem_of_getElem? (i := 62) rfl)) rfl
set_option maxRecDepth 20000 in
theorem wd_426 : (.methodLink RX8 191 yX8_owes : Cond) ∈ TB := tb_i (tc5 (List.mem_of_getElem? (i := 63) rfl)) rfl
set_option maxRecDepth 20000 in
theorem wd_427 : (.instanceMethod yX8_owes : Cond) ∈ TB := tb_i (tc5 (List.mem_of_getElem? (i := 65) rfl)) rfl
set_option maxRecDepth 20000 in
theorem wd_428 : (.selects RX8 yX8_owes yX8_owes : Cond) ∈ TB := tb_i (tps (q := (⟨"CoverRingsModel", "owes", "(III)I"⟩, 46)) (List.mem_append_right _ (List.mem_append_left _ (List.mem_of_getElem? (i := 14) rfl)))) rfl
set_option maxRecDepth 20000 in
theorem wd_429 : (.code yX8_owes cX8_owes 6 (some .int) : Cond) ∈ TB := tb_i (tc5 (List.mem_of_getElem? (i := 66) rfl)) rfl
set_option maxRecDepth 20000 in
theorem wd_430 : (.methodLink RX8 158 yX8_least : Cond) ∈ TB := tb_i (tc5 (List.mem_of_getElem? (i := 67) rfl)) rfl
set_option maxRecDepth 20000 in
theorem wd_431 : (.static yX8_least : Cond) ∈ TB := tb_i (tc5 (List.mem_of_getElem? (i := 68) rfl)) rfl
set_option maxRecDepth 20000 in
theorem wd_432 : (.code yX8_least cX8_least 2 (some .int) : Cond) ∈ TB := tb_i (tc5 (List.mem_of_getElem? (i := 69) rfl)) rfl
set_option maxRecDepth 20000 in
theorem wd_433 : (.methodLink RX8 204 yX8_yieldsOf : Cond) ∈ TB := tb_i (tc5 (List.mem_of_getElem? (i := 70) rfl)) rfl
set_option maxRecDepth 20000 in
theorem wd_434 : (.instanceMethod yX8_yieldsOf : Cond) ∈ TB := tb_i (tc5 (List.mem_of_getElem? (i := 72) rfl)) rfl
set_option maxRecDepth 20000 in
theorem wd_435 : (.selects RX8 yX8_yieldsOf yX8_yieldsOf : Cond) ∈ TB := tb_i (tps (q := (⟨"CoverRingsModel", "yieldsOf", "(I)I"⟩, 46)) (List.mem_append_right _ (List.mem_append_left _ (List.mem_of_getElem? (i := 15) rfl)))) rfl
set_option maxRecDepth 20000 in
theorem wd_436 : (.code yX8_yieldsOf cX8_yieldsOf 2 (some .int) : Cond) ∈ TB := tb_i (tc5 (List.mem_of_getElem? (i := 73) rfl)) rfl
set_option maxRecDepth 20000 in
theorem wd_437 : (.methodLink RX8 207 yX8_closes : Cond) ∈ TB := tb_i (tc5 (List.mem_of_getElem? (i := 74) rfl)) rfl
set_option maxRecDepth 20000 in
theorem wd_438 : (.instanceMethod yX8_closes : Cond) ∈ TB := tb_i (tc5 (List.mem_of_getElem? (i := 76) rfl)) rfl
set_option maxRecDepth 20000 in
theorem wd_439 : (.selects RX8 yX8_closes yX8_closes : Cond) ∈ TB := tb_i (tps (q := (⟨"CoverRingsModel", "closes", "()V"⟩, 46)) (List.mem_append_right _ (List.mem_append_right _ (List.mem_append_left _ (List.mem_of_getElem? (i := 0) rfl))))) rfl
set_option maxRecDepth 20000 in
theorem wd_440 : (.code yX8_closes cX8_closes 3 none : Cond) ∈ TB := tb_i (tc5 (List.mem_of_getElem? (i := 77) rfl)) rfl
set_option maxRecDepth 20000 in
theorem wd_441 : (.methodLink RX8 210 yX8_laysLevels : Cond) ∈ TB := tb_i (tc5 (List.mem_of_getElem? (i := 78) rfl)) rfl
set_option maxRecDepth 20000 in
theorem wd_442 : (.instanceMethod yX8_laysLevels : Cond) ∈ TB := tb_i (tc5 (List.mem_of_getElem? (i := 80) rfl)) rfl
set_option maxRecDepth 20000 in
theorem wd_443 : (.selects RX8 yX8_laysLevels yX8_laysLevels : Cond) ∈ TB := tb_i (tps (q := (⟨"CoverRingsModel", "laysLevels", "()V"⟩, 46)) (List.mem_append_right _ (List.mem_append_right _ (List.mem_append_left _ (List.mem_of_getElem? (i := 1) rfl))))) rfl
set_option maxRecDepth 20000 in
theorem wd_444 : (.code yX8_laysLevels cX8_laysLevels 5 none : Cond) ∈ TB := tb_i (tc5 (List.mem_of_getElem? (i := 81) rfl)) rfl
set_option maxRecDepth 20000 in
theorem wd_445 : (.fieldLink RX8 168 "CoverRingsModel" "outside" "I" : Cond) ∈ TB := tb_i (tc4 (List.mem_of_getElem? (i := 126) rfl)) rfl
set_option maxRecDepth 20000 in
theorem wd_446 : (.methodLink RX8 213 yX8_settlesLevel : Cond) ∈ TB := tb_i (tc5 (List.mem_of_getElem? (i := 82) rfl)) rfl
set_option maxRecDepth 20000 in
theorem wd_447 : (.instanceMethod yX8_settlesLevel : Cond) ∈ TB := tb_i (tc5 (List.mem_of_getElem? (i := 84) rfl)) rfl
set_option maxRecDepth 20000 in
theorem wd_448 : (.selects RX8 yX8_settlesLevel yX8_settlesLevel : Cond) ∈ TB := tb_i (tps (q := (⟨"CoverRingsModel", "settlesLevel", "(III)V"⟩, 46)) (List.mem_append_right _ (List.mem_append_right _ (List.mem_append_left _ (List.mem_of_getElem? (i := 2) rfl))))) rfl
set_option maxRecDepth 20000 in
theorem wd_449 : (.code yX8_settlesLevel cX8_settlesLevel 6 none : Cond) ∈ TB := tb_i (tc5 (List.mem_of_getElem? (i := 85) rfl)) rfl
set_option maxRecDepth 20000 in
theorem wd_450 : (.methodLink RX8 195 yX8_shares : Cond) ∈ TB := tb_i (tc5 (List.mem_of_getElem? (i := 86) rfl)) rfl
set_option maxRecDepth 20000 in
theorem wd_451 : (.instanceMethod yX8_shares : Cond) ∈ TB := tb_i (tc5 (List.mem_of_getElem? (i := 88) rfl)) rfl
set_option maxRecDepth 20000 in
theorem wd_452 : (.selects RX8 yX8_shares yX8_shares : Cond) ∈ TB := tb_i (tps (q := (⟨"CoverRingsModel", "shares", "(I)I"⟩, 46)) (List.mem_append_right _ (List.mem_append_right _ (List.mem_append_left _ (List.mem_of_getElem? (i := 3) rfl))))) rfl
set_option maxRecDepth 20000 in
theorem wd_453 : (.code yX8_shares cX8_shares 6 (some .int) : Cond) ∈ TB := tb_i (tc5 (List.mem_of_getElem? (i := 89) rfl)) rfl
set_option maxRecDepth 20000 in
theorem wd_454 : (.methodLink RX8 179 yX8_capSum : Cond) ∈ TB := tb_i (tc5 (List.mem_of_getElem? (i := 90) rfl)) rfl
set_option maxRecDepth 20000 in
theorem wd_455 : (.instanceMethod yX8_capSum : Cond) ∈ TB := tb_i (tc5 (List.mem_of_getElem? (i := 92) rfl)) rfl
set_option maxRecDepth 20000 in
theorem wd_456 : (.selects RX8 yX8_capSum yX8_capSum : Cond) ∈ TB := tb_i (tps (q := (⟨"CoverRingsModel", "capSum", "()J"⟩, 46)) (List.mem_append_right _ (List.mem_append_right _ (List.mem_append_left _ (List.mem_of_getElem? (i := 4) rfl))))) rfl
set_option maxRecDepth 20000 in
theorem wd_457 : (.code yX8_capSum cX8_capSum 4 (some .long) : Cond) ∈ TB := tb_i (tc5 (List.mem_of_getElem? (i := 93) rfl)) rfl
set_option maxRecDepth 20000 in
theorem wd_458 : (.methodLink RX8 183 yX8_byCaps : Cond) ∈ TB := tb_i (tc5 (List.mem_of_getElem? (i := 94) rfl)) rfl
set_option maxRecDepth 20000 in
theorem wd_459 : (.instanceMethod yX8_byCaps : Cond) ∈ TB := tb_i (tc5 (List.mem_of_getElem? (i := 96) rfl)) rfl
set_option maxRecDepth 20000 in
theorem wd_460 : (.selects RX8 yX8_byCaps yX8_byCaps : Cond) ∈ TB := tb_i (tps (q := (⟨"CoverRingsModel", "byCaps", "(IJ)V"⟩, 46)) (List.mem_append_right _ (List.mem_append_right _ (List.mem_append_left _ (List.mem_of_getElem? (i := 5) rfl))))) rfl
set_option maxRecDepth 20000 in
theorem wd_461 : (.code yX8_byCaps cX8_byCaps 7 none : Cond) ∈ TB := tb_i (tc5 (List.mem_of_getElem? (i := 97) rfl)) rfl
set_option maxRecDepth 20000 in
theorem wd_462 : (.methodLink RX8 187 yX8_bySteps : Cond) ∈ TB := tb_i (tc5 (List.mem_of_getElem? (i := 98) rfl)) rfl
set_option maxRecDepth 20000 in
theorem wd_463 : (.instanceMethod yX8_bySteps : Cond) ∈ TB := tb_i (tc5 (List.mem_of_getElem? (i := 100) rfl)) rfl
set_option maxRecDepth 20000 in
theorem wd_464 : (.selects RX8 yX8_bySteps yX8_bySteps : Cond) ∈ TB := tb_i (tps (q := (⟨"CoverRingsModel", "bySteps", "(I)V"⟩, 46)) (List.mem_append_right _ (List.mem_append_right _ (List.mem_append_left _ (List.mem_of_getElem? (i := 6) rfl))))) rfl
set_option maxRecDepth 20000 in
theorem wd_465 : (.code yX8_bySteps cX8_bySteps 6 none : Cond) ∈ TB := tb_i (tc5 (List.mem_of_getElem? (i := 101) rfl)) rfl
set_option maxRecDepth 20000 in
theorem wd_466 : (.methodLink RX8 175 yX8_heightFor : Cond) ∈ TB := tb_i (tc5 (List.mem_of_getElem? (i := 102) rfl)) rfl
set_option maxRecDepth 20000 in
theorem wd_467 : (.instanceMethod yX8_heightFor : Cond) ∈ TB := tb_i (tc5 (List.mem_of_getElem? (i := 104) rfl)) rfl
set_option maxRecDepth 20000 in
theorem wd_468 : (.selects RX8 yX8_heightFor yX8_heightFor : Cond) ∈ TB := tb_i (tps (q := (⟨"CoverRingsModel", "heightFor", "(I)I"⟩, 46)) (List.mem_append_right _ (List.mem_append_right _ (List.mem_append_left _ (List.mem_of_getElem? (i := 7) rfl))))) rfl
set_option maxRecDepth 20000 in
theorem wd_469 : (.code yX8_heightFor cX8_heightFor 5 (some .int) : Cond) ∈ TB := tb_i (tc5 (List.mem_of_getElem? (i := 105) rfl)) rfl
set_option maxRecDepth 20000 in
theorem wd_470 : (.methodLink RX8 171 yX8_byHeight : Cond) ∈ TB := tb_i (tc5 (List.mem_of_getElem? (i := 106) rfl)) rfl
set_option maxRecDepth 20000 in
theorem wd_471 : (.instanceMethod yX8_byHeight : Cond) ∈ TB := tb_i (tc5 (List.mem_of_getElem? (i := 108) rfl)) rfl
set_option maxRecDepth 20000 in
theorem wd_472 : (.selects RX8 yX8_byHeight yX8_byHeight : Cond) ∈ TB := tb_i (tps (q := (⟨"CoverRingsModel", "byHeight", "(I)J"⟩, 46)) (List.mem_append_right _ (List.mem_append_right _ (List.mem_append_left _ (List.mem_of_getElem? (i := 8) rfl))))) rfl
set_option maxRecDepth 20000 in
theorem wd_473 : (.code yX8_byHeight cX8_byHeight 5 (some .long) : Cond) ∈ TB := tb_i (tc5 (List.mem_of_getElem? (i := 109) rfl)) rfl
set_option maxRecDepth 20000 in
theorem wd_474 : (.methodLink RX8 231 yX8_amounts : Cond) ∈ TB := tb_i (tc5 (List.mem_of_getElem? (i := 110) rfl)) rfl
set_option maxRecDepth 20000 in
theorem wd_475 : (.instanceMethod yX8_amounts : Cond) ∈ TB := tb_i (tc5 (List.mem_of_getElem? (i := 112) rfl)) rfl
set_option maxRecDepth 20000 in
theorem wd_476 : (.selects RX8 yX8_amounts yX8_amounts : Cond) ∈ TB := tb_i (tps (q := (⟨"CoverRingsModel", "amounts", "()I"⟩, 46)) (List.mem_append_right _ (List.mem_append_right _ (List.mem_append_left _ (List.mem_of_getElem? (i := 9) rfl))))) rfl
set_option maxRecDepth 20000 in
theorem wd_477 : (.code yX8_amounts cX8_amounts 3 (some .int) : Cond) ∈ TB := tb_i (tc5 (List.mem_of_getElem? (i := 113) rfl)) rfl
set_option maxRecDepth 20000 in
theorem wd_478 : (.methodLink RX8 234 yX8_used : Cond) ∈ TB := tb_i (tc5 (List.mem_of_getElem? (i := 114) rfl)) rfl
set_option maxRecDepth 20000 in
theorem wd_479 : (.instanceMethod yX8_used : Cond) ∈ TB := tb_i (tc5 (List.mem_of_getElem? (i := 116) rfl)) rfl
set_option maxRecDepth 20000 in
theorem wd_480 : (.selects RX8 yX8_used yX8_used : Cond) ∈ TB := tb_i (tps (q := (⟨"CoverRingsModel", "used", "()I"⟩, 46)) (List.mem_append_right _ (List.mem_append_right _ (List.mem_append_left _ (List.mem_of_getElem? (i := 10) rfl))))) rfl
set_option maxRecDepth 20000 in
theorem wd_481 : (.code yX8_used cX8_used 3 (some .int) : Cond) ∈ TB := tb_i (tc5 (List.mem_of_getElem? (i := 117) rfl)) rfl
set_option maxRecDepth 20000 in
theorem wd_482 : (.methodLink RX8 224 yX8_settlesTo : Cond) ∈ TB := tb_i (tc5 (List.mem_of_getElem? (i := 118) rfl)) rfl
set_option maxRecDepth 20000 in
theorem wd_483 : (.instanceMethod yX8_settlesTo : Cond) ∈ TB := tb_i (tc5 (List.mem_of_getElem? (i := 120) rfl)) rfl
set_option maxRecDepth 20000 in
theorem wd_484 : (.selects RX8 yX8_settlesTo yX8_settlesTo : Cond) ∈ TB := tb_i (tps (q := (⟨"CoverRingsModel", "settlesTo", "(II)V"⟩, 46)) (List.mem_append_right _ (List.mem_append_right _ (List.mem_append_left _ (List.mem_of_getElem? (i := 11) rfl))))) rfl
set_option maxRecDepth 20000 in
theorem wd_485 : (.code yX8_settlesTo cX8_settlesTo 4 none : Cond) ∈ TB := tb_i (tc5 (List.mem_of_getElem? (i := 121) rfl)) rfl
set_option maxRecDepth 20000 in
theorem wd_486 : (.methodLink RL 65 yL_of : Cond) ∈ TB := tb_i (tc4 (List.mem_of_getElem? (i := 8) rfl)) rfl
set_option maxRecDepth 20000 in
theorem wd_487 : (.static yL_of : Cond) ∈ TB := tb_i (tc4 (List.mem_of_getElem? (i := 9) rfl)) rfl
set_option maxRecDepth 20000 in
theorem wd_488 : (.initialized RL : Cond) ∈ TB := tb_i (tc1 (List.mem_of_getElem? (i := 0) rfl)) rfl
set_option maxRecDepth 20000 in
theorem wd_489 : (.codeWith yL_of cL_of 5 (some .int) [(0, 10, 13, 13)] : Cond) ∈ TB := tb_i (tc4 (List.mem_of_getElem? (i := 10) rfl)) rfl
set_option maxRecDepth 20000 in
theorem wd_490 : (.classLink RL 13 "java/util/NoSuchElementException" : Cond) ∈ TB := tb_i (tc4 (List.mem_of_getElem? (i := 11) rfl)) rfl
set_option maxRecDepth 20000 in
theorem wd_491 : (.methodLink RL 7 yX7_of : Cond) ∈ TB := tb_i (tc4 (List.mem_of_getElem? (i := 12) rfl)) rfl
set_option maxRecDepth 20000 in
theorem wd_492 : (.instanceMethod yX7_of : Cond) ∈ TB := tb_i (tc4 (List.mem_of_getElem? (i := 13) rfl)) rfl
set_option maxRecDepth 20000 in
theorem wd_493 : (.selects RX7 yX7_of yX7_of : Cond) ∈ TB := tb_i (tc4 (List.mem_of_getElem? (i := 14) rfl)) rfl
set_option maxRecDepth 20000 in
theorem wd_494 : (.code yX7_of cX7_of 3 (some .int) : Cond) ∈ TB := tb_i (tc4 (List.mem_of_getElem? (i := 15) rfl)) rfl
set_option maxRecDepth 20000 in
theorem wd_495 : (.classLink RX7 128 "java/util/NoSuchElementException" : Cond) ∈ TB := tb_i (tc4 (List.mem_of_getElem? (i := 16) rfl)) rfl
set_option maxRecDepth 20000 in
theorem wd_496 : (.initialized "java/util/NoSuchElementException" : Cond) ∈ TB := tb_i (tc1 (List.mem_of_getElem? (i := 16) rfl)) rfl
set_option maxRecDepth 20000 in
theorem wd_497 : (.fieldLink RX7 131 "CoverRings$Settlement" "left" "[I" : Cond) ∈ TB := tb_i (tc1 (List.mem_of_getElem? (i := 194) rfl)) rfl
set_option maxRecDepth 20000 in
theorem wd_498 : (.fieldLink RX7 134 "CoverRings$Settlement" "usedUpBy" "[I" : Cond) ∈ TB := tb_i (tc1 (List.mem_of_getElem? (i := 198) rfl)) rfl
set_option maxRecDepth 20000 in
theorem wd_499 : (.methodLink RL 70 yX8_of : Cond) ∈ TB := tb_i (tc5 (List.mem_of_getElem? (i := 122) rfl)) rfl
set_option maxRecDepth 20000 in
theorem wd_500 : (.instanceMethod yX8_of : Cond) ∈ TB := tb_i (tc5 (List.mem_of_getElem? (i := 123) rfl)) rfl
set_option maxRecDepth 20000 in
theorem wd_501 : (.selects RX8 yX8_of yX8_of : Cond) ∈ TB := tb_i (tc5 (List.mem_of_getElem? (i := 124) rfl)) rfl
set_option maxRecDepth 20000 in
theorem wd_502 : (.code yX8_of cX8_of 3 (some .int) : Cond) ∈ TB := tb_i (tc5 (List.mem_of_getElem? (i := 125) rfl)) rfl
set_option maxRecDepth 20000 in
theorem wd_503 : (.constantLong RX8 237 (10) : Cond) ∈ TB := tb_i (tc5 (List.mem_of_getElem? (i := 126) rfl)) rfl
set_option maxRecDepth 20000 in
theorem wd_504 : (.constantLong RX8 239 (20) : Cond) ∈ TB := tb_i (tc5 (List.mem_of_getElem? (i := 127) rfl)) rfl
set_option maxRecDepth 20000 in
theorem wd_505 : (.constantLong RX8 241 (27) : Cond) ∈ TB := tb_i (tc5 (List.mem_of_getElem? (i := 128) rfl)) rfl
set_option maxRecDepth 20000 in
theorem wd_506 : (.methodLink RX8 243 yX8_lastLoss : Cond) ∈ TB := tb_i (tc5 (List.mem_of_getElem? (i := 129) rfl)) rfl
set_option maxRecDepth 20000 in
theorem wd_507 : (.instanceMethod yX8_lastLoss : Cond) ∈ TB := tb_i (tc5 (List.mem_of_getElem? (i := 131) rfl)) rfl
set_option maxRecDepth 20000 in
theorem wd_508 : (.selects RX8 yX8_lastLoss yX8_lastLoss : Cond) ∈ TB := tb_i (tps (q := (⟨"CoverRingsModel", "lastLoss", "(I)I"⟩, 46)) (List.mem_append_right _ (List.mem_append_right _ (List.mem_append_left _ (List.mem_of_getElem? (i := 12) rfl))))) rfl
set_option maxRecDepth 20000 in
theorem wd_509 : (.code yX8_lastLoss cX8_lastLoss 3 (some .int) : Cond) ∈ TB := tb_i (tc5 (List.mem_of_getElem? (i := 132) rfl)) rfl
set_option maxRecDepth 20000 in
theorem wd_510 : (.methodLink RL 71 yX7_settled : Cond) ∈ TB := tb_i (tc3 (List.mem_of_getElem? (i := 6) rfl)) rfl
set_option maxRecDepth 20000 in
theorem wd_511 : (.instanceMethod yX7_settled : Cond) ∈ TB := tb_i (tc3 (List.mem_of_getElem? (i := 7) rfl)) rfl
set_option maxRecDepth 20000 in
theorem wd_512 : (.selects RX7 yX7_settled yX7_settled : Cond) ∈ TB := tb_i (tc3 (List.mem_of_getElem? (i := 8) rfl)) rfl
set_option maxRecDepth 20000 in
theorem wd_513 : (.code yX7_settled cX7_settled 4 (some .int) : Cond) ∈ TB := tb_i (tc3 (List.mem_of_getElem? (i := 9) rfl)) rfl
set_option maxRecDepth 20000 in
theorem wd_514 : (.fieldLink RX7 144 "CoverRings$Settlement" "web" "LCoverRings$Web;" : Cond) ∈ TB := tb_i (tc1 (List.mem_of_getElem? (i := 186) rfl)) rfl
set_option maxRecDepth 20000 in
theorem wd_515 : (.fieldLink RX7 148 "CoverRings$Settlement" "total" "I" : Cond) ∈ TB := tb_i (tc1 (List.mem_of_getElem? (i := 208) rfl)) rfl
set_option maxRecDepth 20000 in
theorem wd_516 : (.fieldLink RX7 151 "CoverRings$Web" "in" "I" : Cond) ∈ TB := tb_i (tc1 (List.mem_of_getElem? (i := 136) rfl)) rfl
set_option maxRecDepth 20000 in
theorem wd_517 : (.fieldLink RX7 156 "CoverRings$Web" "out" "I" : Cond) ∈ TB := tb_i (tc1 (List.mem_of_getElem? (i := 139) rfl)) rfl
set_option maxRecDepth 20000 in
theorem wd_518 : (.fieldLink RX7 162 "CoverRings$Web" "levels" "I" : Cond) ∈ TB := tb_i (tc1 (List.mem_of_getElem? (i := 142) rfl)) rfl
set_option maxRecDepth 20000 in
theorem wd_519 : (.methodLink RX7 137 yX7_isLoss : Cond) ∈ TB := tb_i (tc3 (List.mem_of_getElem? (i := 10) rfl)) rfl
set_option maxRecDepth 20000 in
theorem wd_520 : (.instanceMethod yX7_isLoss : Cond) ∈ TB := tb_i (tc3 (List.mem_of_getElem? (i := 12) rfl)) rfl
set_option maxRecDepth 20000 in
theorem wd_521 : (.selects RX7 yX7_isLoss yX7_isLoss : Cond) ∈ TB := tb_i (tps (q := (⟨"CoverRings", "isLoss", "(I)Z"⟩, 6)) (List.mem_append_left _ (List.mem_of_getElem? (i := 11) rfl))) rfl
set_option maxRecDepth 20000 in
theorem wd_522 : (.code yX7_isLoss cX7_isLoss 2 (some .boolean) : Cond) ∈ TB := tb_i (tc3 (List.mem_of_getElem? (i := 13) rfl)) rfl
set_option maxRecDepth 20000 in
theorem wd_523 : (.methodLink RX7 140 yX7_settle : Cond) ∈ TB := tb_i (tc3 (List.mem_of_getElem? (i := 14) rfl)) rfl
set_option maxRecDepth 20000 in
theorem wd_524 : (.instanceMethod yX7_settle : Cond) ∈ TB := tb_i (tc3 (List.mem_of_getElem? (i := 16) rfl)) rfl
set_option maxRecDepth 20000 in
theorem wd_525 : (.selects RX7 yX7_settle yX7_settle : Cond) ∈ TB := tb_i (tps (q := (⟨"CoverRings", "settle", "(I)V"⟩, 6)) (List.mem_append_left _ (List.mem_of_getElem? (i := 12) rfl))) rfl
set_option maxRecDepth 20000 in
theorem wd_526 : (.code yX7_settle cX7_settle 2 none : Cond) ∈ TB := tb_i (tc3 (List.mem_of_getElem? (i := 17) rfl)) rfl
set_option maxRecDepth 20000 in
theorem wd_527 : (.methodLink RX7 159 yX6_countRings : Cond) ∈ TB := tb_i (tc3 (List.mem_of_getElem? (i := 18) rfl)) rfl
set_option maxRecDepth 20000 in
theorem wd_528 : (.instanceMethod yX6_countRings : Cond) ∈ TB := tb_i (tc3 (List.mem_of_getElem? (i := 19) rfl)) rfl
set_option maxRecDepth 20000 in
theorem wd_529 : (.selects RX6 yX6_countRings yX6_countRings : Cond) ∈ TB := tb_i (tc3 (List.mem_of_getElem? (i := 20) rfl)) rfl
set_option maxRecDepth 20000 in
theorem wd_530 : (.code yX6_countRings cX6_countRings 3 (some .int) : Cond) ∈ TB := tb_i (tc3 (List.mem_of_getElem? (i := 21) rfl)) rfl
set_option maxRecDepth 20000 in
theorem wd_531 : (.methodLink RX6 65 yX6_isLeastOfRing : Cond) ∈ TB := tb_i (tc3 (List.mem_of_getElem? (i := 22) rfl)) rfl
set_option maxRecDepth 20000 in
theorem wd_532 : (.instanceMethod yX6_isLeastOfRing : Cond) ∈ TB := tb_i (tc3 (List.mem_of_getElem? (i := 24) rfl)) rfl
set_option maxRecDepth 20000 in
theorem wd_533 : (.selects RX6 yX6_isLeastOfRing yX6_isLeastOfRing : Cond) ∈ TB := tb_i (tps (q := (⟨"CoverRings$Web", "isLeastOfRing", "(I)Z"⟩, 9)) (List.mem_append_left _ (List.mem_of_getElem? (i := 13) rfl))) rfl
set_option maxRecDepth 20000 in
theorem wd_534 : (.code yX6_isLeastOfRing cX6_isLeastOfRing 2 (some .boolean) : Cond) ∈ TB := tb_i (tc3 (List.mem_of_getElem? (i := 25) rfl)) rfl
set_option maxRecDepth 20000 in
theorem wd_535 : (.methodLink RX7 165 yX6_countYields : Cond) ∈ TB := tb_i (tc3 (List.mem_of_getElem? (i := 26) rfl)) rfl
set_option maxRecDepth 20000 in
theorem wd_536 : (.instanceMethod yX6_countYields : Cond) ∈ TB := tb_i (tc3 (List.mem_of_getElem? (i := 27) rfl)) rfl
set_option maxRecDepth 20000 in
theorem wd_537 : (.selects RX6 yX6_countYields yX6_countYields : Cond) ∈ TB := tb_i (tc3 (List.mem_of_getElem? (i := 28) rfl)) rfl
set_option maxRecDepth 20000 in
theorem wd_538 : (.code yX6_countYields cX6_countYields 3 (some .int) : Cond) ∈ TB := tb_i (tc3 (List.mem_of_getElem? (i := 29) rfl)) rfl
set_option maxRecDepth 20000 in
theorem wd_539 : (.methodLink RX6 60 yJ6_bitCount_0f7a4 : Cond) ∈ TB := tb_i (tc3 (List.mem_of_getElem? (i := 30) rfl)) rfl
set_option maxRecDepth 20000 in
theorem wd_540 : (.static yJ6_bitCount_0f7a4 : Cond) ∈ TB := tb_i (tc3 (List.mem_of_getElem? (i := 31) rfl)) rfl
set_option maxRecDepth 20000 in
theorem wd_541 : (.initialized RJ6 : Cond) ∈ TB := tb_i (tc1 (List.mem_of_getElem? (i := 18) rfl)) rfl
set_option maxRecDepth 20000 in
theorem wd_542 : (.code yJ6_bitCount_0f7a4 cJ6_bitCount_0f7a4 1 (some .int) : Cond) ∈ TB := tb_i (tc3 (List.mem_of_getElem? (i := 32) rfl)) rfl
set_option maxRecDepth 20000 in
theorem wd_543 : (.constant RJ6 265 (1431655765) : Cond) ∈ TB := tb_i (tc3 (List.mem_of_getElem? (i := 33) rfl)) rfl
set_option maxRecDepth 20000 in
theorem wd_544 : (.constant RJ6 266 (858993459) : Cond) ∈ TB := tb_i (tc3 (List.mem_of_getElem? (i := 34) rfl)) rfl
set_option maxRecDepth 20000 in
theorem wd_545 : (.constant RJ6 267 (252645135) : Cond) ∈ TB := tb_i (tc3 (List.mem_of_getElem? (i := 35) rfl)) rfl
set_option maxRecDepth 20000 in
theorem wd_546 : (.methodLink RX7 168 yX6_countTrueYields : Cond) ∈ TB := tb_i (tc3 (List.mem_of_getElem? (i := 36) rfl)) rfl
set_option maxRecDepth 20000 in
theorem wd_547 : (.instanceMethod yX6_countTrueYields : Cond) ∈ TB := tb_i (tc3 (List.mem_of_getElem? (i := 37) rfl)) rfl
set_option maxRecDepth 20000 in
theorem wd_548 : (.selects RX6 yX6_countTrueYields yX6_countTrueYields : Cond) ∈ TB := tb_i (tc3 (List.mem_of_getElem? (i := 38) rfl)) rfl
set_option maxRecDepth 20000 in
theorem wd_549 : (.code yX6_countTrueYields cX6_countTrueYields 3 (some .int) : Cond) ∈ TB := tb_i (tc3 (List.mem_of_getElem? (i := 39) rfl)) rfl
set_option maxRecDepth 20000 in
theorem wd_550 : (.methodLink RL 74 yX8_settled : Cond) ∈ TB := tb_i (tc5 (List.mem_of_getElem? (i := 133) rfl)) rfl
set_option maxRecDepth 20000 in
theorem wd_551 : (.instanceMethod yX8_settled : Cond) ∈ TB := tb_i (tc5 (List.mem_of_getElem? (i := 134) rfl)) rfl
set_option maxRecDepth 20000 in
theorem wd_552 : (.selects RX8 yX8_settled yX8_settled : Cond) ∈ TB := tb_i (tc5 (List.mem_of_getElem? (i := 135) rfl)) rfl
set_option maxRecDepth 20000 in
theorem wd_553 : (.code yX8_settled cX8_settled 3 (some .int) : Cond) ∈ TB := tb_i (tc5 (List.mem_of_getElem? (i := 136) rfl)) rfl
set_option maxRecDepth 20000 in
theorem wd_554 : (.methodLink RX8 252 yX8_isLoss : Cond) ∈ TB := tb_i (tc5 (List.mem_of_getElem? (i := 137) rfl)) rfl
set_option maxRecDepth 20000 in
theorem wd_555 : (.instanceMethod yX8_isLoss : Cond) ∈ TB := tb_i (tc5 (List.mem_of_getElem? (i := 139) rfl)) rfl
set_option maxRecDepth 20000 in
theorem wd_556 : (.selects RX8 yX8_isLoss yX8_isLoss : Cond) ∈ TB := tb_i (tps (q := (⟨"CoverRingsModel", "isLoss", "(I)Z"⟩, 46)) (List.mem_append_right _ (List.mem_append_right _ (List.mem_append_left _ (List.mem_of_getElem? (i := 13) rfl))))) rfl
set_option maxRecDepth 20000 in
theorem wd_557 : (.code yX8_isLoss cX8_isLoss 2 (some .boolean) : Cond) ∈ TB := tb_i (tc5 (List.mem_of_getElem? (i := 140) rfl)) rfl
set_option maxRecDepth 20000 in
theorem wd_558 : (.methodLink RX8 255 yX8_rings : Cond) ∈ TB := tb_i (tc5 (List.mem_of_getElem? (i := 141) rfl)) rfl
set_option maxRecDepth 20000 in
theorem wd_559 : (.instanceMethod yX8_rings : Cond) ∈ TB := tb_i (tc5 (List.mem_of_getElem? (i := 143) rfl)) rfl
set_option maxRecDepth 20000 in
theorem wd_560 : (.selects RX8 yX8_rings yX8_rings : Cond) ∈ TB := tb_i (tps (q := (⟨"CoverRingsModel", "rings", "()I"⟩, 46)) (List.mem_append_right _ (List.mem_append_right _ (List.mem_append_left _ (List.mem_of_getElem? (i := 14) rfl))))) rfl
set_option maxRecDepth 20000 in
theorem wd_561 : (.code yX8_rings cX8_rings 3 (some .int) : Cond) ∈ TB := tb_i (tc5 (List.mem_of_getElem? (i := 144) rfl)) rfl
set_option maxRecDepth 20000 in
theorem wd_562 : (.methodLink RX8 246 yX8_isLead : Cond) ∈ TB := tb_i (tc5 (List.mem_of_getElem? (i := 145) rfl)) rfl
set_option maxRecDepth 20000 in
theorem wd_563 : (.instanceMethod yX8_isLead : Cond) ∈ TB := tb_i (tc5 (List.mem_of_getElem? (i := 147) rfl)) rfl
set_option maxRecDepth 20000 in
theorem wd_564 : (.selects RX8 yX8_isLead yX8_isLead : Cond) ∈ TB := tb_i (tps (q := (⟨"CoverRingsModel", "isLead", "(I)Z"⟩, 46)) (List.mem_append_right _ (List.mem_append_right _ (List.mem_append_left _ (List.mem_of_getElem? (i := 15) rfl))))) rfl
set_option maxRecDepth 20000 in
theorem wd_565 : (.code yX8_isLead cX8_isLead 2 (some .boolean) : Cond) ∈ TB := tb_i (tc5 (List.mem_of_getElem? (i := 148) rfl)) rfl
set_option maxRecDepth 20000 in
theorem wd_566 : (.methodLink RX8 258 yX8_yieldMany : Cond) ∈ TB := tb_i (tc5 (List.mem_of_getElem? (i := 149) rfl)) rfl
set_option maxRecDepth 20000 in
theorem wd_567 : (.instanceMethod yX8_yieldMany : Cond) ∈ TB := tb_i (tc5 (List.mem_of_getElem? (i := 151) rfl)) rfl
set_option maxRecDepth 20000 in
theorem wd_568 : (.selects RX8 yX8_yieldMany yX8_yieldMany : Cond) ∈ TB := tb_i (tps (q := (⟨"CoverRingsModel", "yieldMany", "(Z)I"⟩, 46)) (List.mem_append_right _ (List.mem_append_right _ (List.mem_append_right _ (List.mem_of_getElem? (i := 0) rfl))))) rfl
set_option maxRecDepth 20000 in
theorem wd_569 : (.code yX8_yieldMany cX8_yieldMany 4 (some .int) : Cond) ∈ TB := tb_i (tc5 (List.mem_of_getElem? (i := 152) rfl)) rfl
set_option maxRecDepth 20000 in
theorem wd_570 : (.methodLink RX8 249 yX8_bits : Cond) ∈ TB := tb_i (tc5 (List.mem_of_getElem? (i := 153) rfl)) rfl
set_option maxRecDepth 20000 in
theorem wd_571 : (.static yX8_bits : Cond) ∈ TB := tb_i (tc5 (List.mem_of_getElem? (i := 154) rfl)) rfl
set_option maxRecDepth 20000 in
theorem wd_572 : (.code yX8_bits cX8_bits 3 (some .int) : Cond) ∈ TB := tb_i (tc5 (List.mem_of_getElem? (i := 155) rfl)) rfl
set_option maxRecDepth 20000 in
theorem wd_573 : (.methodLink RL 75 yL_share : Cond) ∈ TB := tb_i (tc4 (List.mem_of_getElem? (i := 77) rfl)) rfl
set_option maxRecDepth 20000 in
theorem wd_574 : (.static yL_share : Cond) ∈ TB := tb_i (tc4 (List.mem_of_getElem? (i := 78) rfl)) rfl
set_option maxRecDepth 20000 in
theorem wd_575 : (.codeWith yL_share cL_share 6 (some .int) [(0, 12, 15, 13)] : Cond) ∈ TB := tb_i (tc4 (List.mem_of_getElem? (i := 79) rfl)) rfl
set_option maxRecDepth 20000 in
theorem wd_576 : (.methodLink RL 15 yX7_share : Cond) ∈ TB := tb_i (tc4 (List.mem_of_getElem? (i := 80) rfl)) rfl
set_option maxRecDepth 20000 in
theorem wd_577 : (.instanceMethod yX7_share : Cond) ∈ TB := tb_i (tc4 (List.mem_of_getElem? (i := 81) rfl)) rfl
set_option maxRecDepth 20000 in
theorem wd_578 : (.selects RX7 yX7_share yX7_share : Cond) ∈ TB := tb_i (tc4 (List.mem_of_getElem? (i := 82) rfl)) rfl
set_option maxRecDepth 20000 in
theorem wd_579 : (.code yX7_share cX7_share 5 (some .int) : Cond) ∈ TB := tb_i (tc4 (List.mem_of_getElem? (i := 83) rfl)) rfl
set_option maxRecDepth 20000 in
theorem wd_580 : (.fieldLink RX7 171 "CoverRings$Settlement" "lones" "[I" : Cond) ∈ TB := tb_i (tc1 (List.mem_of_getElem? (i := 200) rfl)) rfl
set_option maxRecDepth 20000 in
theorem wd_581 : (.fieldLink RX7 174 "CoverRings$Web" "levelOf" "[I" : Cond) ∈ TB := tb_i (tc1 (List.mem_of_getElem? (i := 131) rfl)) rfl
set_option maxRecDepth 20000 in
theorem wd_582 : (.fieldLink RX7 177 "CoverRings$Settlement" "caps" "[I" : Cond) ∈ TB := tb_i (tc1 (List.mem_of_getElem? (i := 202) rfl)) rfl
set_option maxRecDepth 20000 in
theorem wd_583 : (.fieldLink RX7 180 "CoverRings$Settlement" "shares" "[I" : Cond) ∈ TB := tb_i (tc1 (List.mem_of_getElem? (i := 204) rfl)) rfl
set_option maxRecDepth 20000 in
theorem wd_584 : (.fieldLink RX7 183 "CoverRings$Web" "rings" "[I" : Cond) ∈ TB := tb_i (tc1 (List.mem_of_getElem? (i := 128) rfl)) rfl
set_option maxRecDepth 20000 in
theorem wd_585 : (.fieldLink RX7 186 "CoverRings$Web" "yields" "[I" : Cond) ∈ TB := tb_i (tc1 (List.mem_of_getElem? (i := 126) rfl)) rfl
set_option maxRecDepth 20000 in
theorem wd_586 : (.fieldLink RX7 193 "CoverRings$Settlement" "ahead" "[I" : Cond) ∈ TB := tb_i (tc1 (List.mem_of_getElem? (i := 196) rfl)) rfl
set_option maxRecDepth 20000 in
theorem wd_587 : (.methodLink RX7 189 yX6_trueYields : Cond) ∈ TB := tb_i (tc4 (List.mem_of_getElem? (i := 84) rfl)) rfl
set_option maxRecDepth 20000 in
theorem wd_588 : (.methodLink RX7 196 yX4_burdenOn : Cond) ∈ TB := tb_i (tc4 (List.mem_of_getElem? (i := 85) rfl)) rfl
set_option maxRecDepth 20000 in
theorem wd_589 : (.instanceMethod yX4_burdenOn : Cond) ∈ TB := tb_i (tc4 (List.mem_of_getElem? (i := 86) rfl)) rfl
set_option maxRecDepth 20000 in
theorem wd_590 : (.selects RX4 yX4_burdenOn yX4_burdenOn : Cond) ∈ TB := tb_i (tc4 (List.mem_of_getElem? (i := 87) rfl)) rfl
set_option maxRecDepth 20000 in
theorem wd_591 : (.code yX4_burdenOn cX4_burdenOn 3 (some .int) : Cond) ∈ TB := tb_i (tc4 (List.mem_of_getElem? (i := 88) rfl)) rfl
set_option maxRecDepth 20000 in
theorem wd_592 : (.fieldLink RX4 169 "CoverRings$Web" "levelOf" "[I" : Cond) ∈ TB := tb_i (tc1 (List.mem_of_getElem? (i := 130) rfl)) rfl
set_option maxRecDepth 20000 in
theorem wd_593 : (.methodLink RL 78 yX8_share : Cond) ∈ TB := tb_i (tc5 (List.mem_of_getElem? (i := 156) rfl)) rfl
set_option maxRecDepth 20000 in
theorem wd_594 : (.instanceMethod yX8_share : Cond) ∈ TB := tb_i (tc5 (List.mem_of_getElem? (i := 157) rfl)) rfl
set_option maxRecDepth 20000 in
theorem wd_595 : (.selects RX8 yX8_share yX8_share : Cond) ∈ TB := tb_i (tc5 (List.mem_of_getElem? (i := 158) rfl)) rfl
set_option maxRecDepth 20000 in
theorem wd_596 : (.code yX8_share cX8_share 4 (some .int) : Cond) ∈ TB := tb_i (tc5 (List.mem_of_getElem? (i := 159) rfl)) rfl
set_option maxRecDepth 20000 in
theorem wd_597 : (.constantLong RX8 262 (8) : Cond) ∈ TB := tb_i (tc5 (List.mem_of_getElem? (i := 160) rfl)) rfl
set_option maxRecDepth 20000 in
theorem wd_598 : (.methodLink RL 79 yX7_part : Cond) ∈ TB := tb_i (tc3 (List.mem_of_getElem? (i := 40) rfl)) rfl
set_option maxRecDepth 20000 in
theorem wd_599 : (.instanceMethod yX7_part : Cond) ∈ TB := tb_i (tc3 (List.mem_of_getElem? (i := 41) rfl)) rfl
set_option maxRecDepth 20000 in
theorem wd_600 : (.selects RX7 yX7_part yX7_part : Cond) ∈ TB := tb_i (tc3 (List.mem_of_getElem? (i := 42) rfl)) rfl
set_option maxRecDepth 20000 in
theorem wd_601 : (.code yX7_part cX7_part 3 (some .int) : Cond) ∈ TB := tb_i (tc3 (List.mem_of_getElem? (i := 43) rfl)) rfl
set_option maxRecDepth 20000 in
theorem wd_602 : (.methodLink RX7 199 yX7_bitsOfFloat : Cond) ∈ TB := tb_i (tc3 (List.mem_of_getElem? (i := 44) rfl)) rfl
set_option maxRecDepth 20000 in
theorem wd_603 : (.static yX7_bitsOfFloat : Cond) ∈ TB := tb_i (tc3 (List.mem_of_getElem? (i := 45) rfl)) rfl
set_option maxRecDepth 20000 in
theorem wd_604 : (.code yX7_bitsOfFloat cX7_bitsOfFloat 4 (some .int) : Cond) ∈ TB := tb_i (tc3 (List.mem_of_getElem? (i := 46) rfl)) rfl
set_option maxRecDepth 20000 in
theorem wd_605 : (.constantFloat RX7 338 (1258291200) : Cond) ∈ TB := tb_i (tc3 (List.mem_of_getElem? (i := 47) rfl)) rfl
set_option maxRecDepth 20000 in
theorem wd_606 : (.constant RX7 339 (8388608) : Cond) ∈ TB := tb_i (tc3 (List.mem_of_getElem? (i := 48) rfl)) rfl
set_option maxRecDepth 20000 in
theorem wd_607 : (.methodLink RL 82 yX8_part : Cond) ∈ TB := tb_i (tc5 (List.mem_of_getElem? (i := 161) rfl)) rfl
set_option maxRecDepth 20000 in
theorem wd_608 : (.instanceMethod yX8_part : Cond) ∈ TB := tb_i (tc5 (List.mem_of_getElem? (i := 162) rfl)) rfl
set_option maxRecDepth 20000 in
theorem wd_609 : (.selects RX8 yX8_part yX8_part : Cond) ∈ TB := tb_i (tc5 (List.mem_of_getElem? (i := 163) rfl)) rfl
set_option maxRecDepth 20000 in
theorem wd_610 : (.code yX8_part cX8_part 3 (some .int) : Cond) ∈ TB := tb_i (tc5 (List.mem_of_getElem? (i := 164) rfl)) rfl
set_option maxRecDepth 20000 in
theorem wd_611 : (.methodLink RX8 264 yX8_isBoth : Cond) ∈ TB := tb_i (tc5 (List.mem_of_getElem? (i := 165) rfl)) rfl
set_option maxRecDepth 20000 in
theorem wd_612 : (.instanceMethod yX8_isBoth : Cond) ∈ TB := tb_i (tc5 (List.mem_of_getElem? (i := 167) rfl)) rfl
set_option maxRecDepth 20000 in
theorem wd_613 : (.selects RX8 yX8_isBoth yX8_isBoth : Cond) ∈ TB := tb_i (tps (q := (⟨"CoverRingsModel", "isBoth", "(II)Z"⟩, 46)) (List.mem_append_right _ (List.mem_append_right _ (List.mem_append_right _ (List.mem_of_getElem? (i := 1) rfl))))) rfl
set_option maxRecDepth 20000 in
theorem wd_614 : (.code yX8_isBoth cX8_isBoth 3 (some .boolean) : Cond) ∈ TB := tb_i (tc5 (List.mem_of_getElem? (i := 168) rfl)) rfl
set_option maxRecDepth 20000 in
theorem wd_615 : (.methodLink RX8 267 yJxf58ca_floatToIntBits_5c35a : Cond) ∈ TB := tb_i (tc5 (List.mem_of_getElem? (i := 169) rfl)) rfl
set_option maxRecDepth 20000 in
theorem wd_616 : (.static yJxf58ca_floatToIntBits_5c35a : Cond) ∈ TB := tb_i (tc5 (List.mem_of_getElem? (i := 170) rfl)) rfl
set_option maxRecDepth 20000 in
theorem wd_617 : (.initialized RJxf58ca : Cond) ∈ TB := tb_i (tc1 (List.mem_of_getElem? (i := 19) rfl)) rfl
set_option maxRecDepth 20000 in
theorem wd_618 : (.code yJxf58ca_floatToIntBits_5c35a cJxf58ca_floatToIntBits_5c35a 1 (some .int) : Cond) ∈ TB := tb_i (tc5 (List.mem_of_getElem? (i := 171) rfl)) rfl
set_option maxRecDepth 20000 in
theorem wd_619 : (.methodLink RJxf58ca 74 ⟨"java/lang/Float", "floatToRawIntBits", "(F)I"⟩ : Cond) ∈ TB := tb_i (tc5 (List.mem_of_getElem? (i := 175) rfl)) rfl
set_option maxRecDepth 20000 in
theorem wd_620 : (.native ⟨"java/lang/Float", "floatToRawIntBits", "(F)I"⟩ : Cond) ∈ TB := tb_i (tc5 (List.mem_of_getElem? (i := 177) rfl)) rfl
set_option maxRecDepth 20000 in
theorem wd_621 : (.static ⟨"java/lang/Float", "floatToRawIntBits", "(F)I"⟩ : Cond) ∈ TB := tb_i (tc5 (List.mem_of_getElem? (i := 176) rfl)) rfl
set_option maxRecDepth 20000 in
theorem wd_622 : (.initialized "java/lang/Float" : Cond) ∈ TB := tb_i (tc1 (List.mem_of_getElem? (i := 19) rfl)) rfl
set_option maxRecDepth 20000 in
theorem wd_623 : (.constant RJxf58ca 77 (2143289344) : Cond) ∈ TB := tb_i (tc5 (List.mem_of_getElem? (i := 178) rfl)) rfl
set_option maxRecDepth 20000 in
theorem wd_624 : (.methodLink RJxf58ca 59 yJxf58ca_isNaN_12338 : Cond) ∈ TB := tb_i (tc5 (List.mem_of_getElem? (i := 172) rfl)) rfl
set_option maxRecDepth 20000 in
theorem wd_625 : (.static yJxf58ca_isNaN_12338 : Cond) ∈ TB := tb_i (tc5 (List.mem_of_getElem? (i := 173) rfl)) rfl
set_option maxRecDepth 20000 in
theorem wd_626 : (.code yJxf58ca_isNaN_12338 cJxf58ca_isNaN_12338 1 (some .boolean) : Cond) ∈ TB := tb_i (tc5 (List.mem_of_getElem? (i := 174) rfl)) rfl
set_option maxRecDepth 20000 in
theorem wd_627 : (.methodLink RL 83 yX7_strain : Cond) ∈ TB := tb_i (tc3 (List.mem_of_getElem? (i := 49) rfl)) rfl
set_option maxRecDepth 20000 in
theorem wd_628 : (.instanceMethod yX7_strain : Cond) ∈ TB := tb_i (tc3 (List.mem_of_getElem? (i := 50) rfl)) rfl
set_option maxRecDepth 20000 in
theorem wd_629 : (.selects RX7 yX7_strain yX7_strain : Cond) ∈ TB := tb_i (tc3 (List.mem_of_getElem? (i := 51) rfl)) rfl
set_option maxRecDepth 20000 in
theorem wd_630 : (.code yX7_strain cX7_strain 3 (some .long) : Cond) ∈ TB := tb_i (tc3 (List.mem_of_getElem? (i := 52) rfl)) rfl
set_option maxRecDepth 20000 in
theorem wd_631 : (.constantLong RX7 203 (-1) : Cond) ∈ TB := tb_i (tc3 (List.mem_of_getElem? (i := 53) rfl)) rfl
set_option maxRecDepth 20000 in
theorem wd_632 : (.methodLink RX7 205 yX7_bitsOfDouble : Cond) ∈ TB := tb_i (tc3 (List.mem_of_getElem? (i := 54) rfl)) rfl
set_option maxRecDepth 20000 in
theorem wd_633 : (.static yX7_bitsOfDouble : Cond) ∈ TB := tb_i (tc3 (List.mem_of_getElem? (i := 55) rfl)) rfl
set_option maxRecDepth 20000 in
theorem wd_634 : (.code yX7_bitsOfDouble cX7_bitsOfDouble 7 (some .long) : Cond) ∈ TB := tb_i (tc3 (List.mem_of_getElem? (i := 56) rfl)) rfl
set_option maxRecDepth 20000 in
theorem wd_635 : (.constantLong RX7 340 (1023) : Cond) ∈ TB := tb_i (tc3 (List.mem_of_getElem? (i := 57) rfl)) rfl
set_option maxRecDepth 20000 in
theorem wd_636 : (.constantDouble RX7 342 (4611686018427387904) : Cond) ∈ TB := tb_i (tc3 (List.mem_of_getElem? (i := 58) rfl)) rfl
set_option maxRecDepth 20000 in
theorem wd_637 : (.constantDouble RX7 344 (4841369599423283200) : Cond) ∈ TB := tb_i (tc3 (List.mem_of_getElem? (i := 59) rfl)) rfl
set_option maxRecDepth 20000 in
theorem wd_638 : (.constantLong RX7 346 (4503599627370496) : Cond) ∈ TB := tb_i (tc3 (List.mem_of_getElem? (i := 60) rfl)) rfl
set_option maxRecDepth 20000 in
theorem wd_639 : (.methodLink RL 87 yX8_strain : Cond) ∈ TB := tb_i (tc5 (List.mem_of_getElem? (i := 179) rfl)) rfl
set_option maxRecDepth 20000 in
theorem wd_640 : (.instanceMethod yX8_strain : Cond) ∈ TB := tb_i (tc5 (List.mem_of_getElem? (i := 180) rfl)) rfl
set_option maxRecDepth 20000 in
theorem wd_641 : (.selects RX8 yX8_strain yX8_strain : Cond) ∈ TB := tb_i (tc5 (List.mem_of_getElem? (i := 181) rfl)) rfl
set_option maxRecDepth 20000 in
theorem wd_642 : (.code yX8_strain cX8_strain 3 (some .long) : Cond) ∈ TB := tb_i (tc5 (List.mem_of_getElem? (i := 182) rfl)) rfl
set_option maxRecDepth 20000 in
theorem wd_643 : (.methodLink RX8 273 yJxe99ae_doubleToLongBits_ccdee : Cond) ∈ TB := tb_i (tc5 (List.mem_of_getElem? (i := 183) rfl)) rfl
set_option maxRecDepth 20000 in
theorem wd_644 : (.static yJxe99ae_doubleToLongBits_ccdee : Cond) ∈ TB := tb_i (tc5 (List.mem_of_getElem? (i := 184) rfl)) rfl
set_option maxRecDepth 20000 in
theorem wd_645 : (.initialized RJxe99ae : Cond) ∈ TB := tb_i (tc1 (List.mem_of_getElem? (i := 20) rfl)) rfl
set_option maxRecDepth 20000 in
theorem wd_646 : (.code yJxe99ae_doubleToLongBits_ccdee cJxe99ae_doubleToLongBits_ccdee 2 (some .long) : Cond) ∈ TB := tb_i (tc5 (List.mem_of_getElem? (i := 185) rfl)) rfl
set_option maxRecDepth 20000 in
theorem wd_647 : (.methodLink RJxe99ae 134 ⟨"java/lang/Double", "doubleToRawLongBits", "(D)J"⟩ : Cond) ∈ TB := tb_i (tc5 (List.mem_of_getElem? (i := 189) rfl)) rfl
set_option maxRecDepth 20000 in
theorem wd_648 : (.native ⟨"java/lang/Double", "doubleToRawLongBits", "(D)J"⟩ : Cond) ∈ TB := tb_i (tc5 (List.mem_of_getElem? (i := 191) rfl)) rfl
set_option maxRecDepth 20000 in
theorem wd_649 : (.static ⟨"java/lang/Double", "doubleToRawLongBits", "(D)J"⟩ : Cond) ∈ TB := tb_i (tc5 (List.mem_of_getElem? (i := 190) rfl)) rfl
set_option maxRecDepth 20000 in
theorem wd_650 : (.initialized "java/lang/Double" : Cond) ∈ TB := tb_i (tc1 (List.mem_of_getElem? (i := 20) rfl)) rfl
set_option maxRecDepth 20000 in
theorem wd_652 : (.methodLink RJxe99ae 122 yJxe99ae_isNaN_b9ae7 : Cond) ∈ TB := tb_i (tc5 (List.mem_of_getElem? (i := 186) rfl)) rfl
set_option maxRecDepth 20000 in
theorem wd_653 : (.static yJxe99ae_isNaN_b9ae7 : Cond) ∈ TB := tb_i (tc5 (List.mem_of_getElem? (i := 187) rfl)) rfl
set_option maxRecDepth 20000 in
theorem wd_654 : (.code yJxe99ae_isNaN_b9ae7 cJxe99ae_isNaN_b9ae7 2 (some .boolean) : Cond) ∈ TB := tb_i (tc5 (List.mem_of_getElem? (i := 188) rfl)) rfl
set_option maxRecDepth 20000 in
theorem wd_655 : (.methodLink RL 88 yX7_step : Cond) ∈ TB := tb_i (tc3 (List.mem_of_getElem? (i := 61) rfl)) rfl
set_option maxRecDepth 20000 in
theorem wd_656 : (.instanceMethod yX7_step : Cond) ∈ TB := tb_i (tc3 (List.mem_of_getElem? (i := 62) rfl)) rfl
set_option maxRecDepth 20000 in
theorem wd_657 : (.selects RX7 yX7_step yX7_step : Cond) ∈ TB := tb_i (tc3 (List.mem_of_getElem? (i := 63) rfl)) rfl
set_option maxRecDepth 20000 in
theorem wd_658 : (.code yX7_step cX7_step 3 (some .int) : Cond) ∈ TB := tb_i (tc3 (List.mem_of_getElem? (i := 64) rfl)) rfl
set_option maxRecDepth 20000 in
theorem wd_659 : (.methodLink RX7 209 yX7_isLevel : Cond) ∈ TB := tb_i (tc3 (List.mem_of_getElem? (i := 65) rfl)) rfl
set_option maxRecDepth 20000 in
theorem wd_660 : (.instanceMethod yX7_isLevel : Cond) ∈ TB := tb_i (tc3 (List.mem_of_getElem? (i := 67) rfl)) rfl
set_option maxRecDepth 20000 in
theorem wd_661 : (.selects RX7 yX7_isLevel yX7_isLevel : Cond) ∈ TB := tb_i (tps (q := (⟨"CoverRings", "isLevel", "(I)Z"⟩, 6)) (List.mem_append_left _ (List.mem_of_getElem? (i := 14) rfl))) rfl
set_option maxRecDepth 20000 in
theorem wd_662 : (.code yX7_isLevel cX7_isLevel 2 (some .boolean) : Cond) ∈ TB := tb_i (tc3 (List.mem_of_getElem? (i := 68) rfl)) rfl
set_option maxRecDepth 20000 in
theorem wd_663 : (.methodLink RX7 212 yX4_heightOf : Cond) ∈ TB := tb_i (tc3 (List.mem_of_getElem? (i := 69) rfl)) rfl
set_option maxRecDepth 20000 in
theorem wd_664 : (.instanceMethod yX4_heightOf : Cond) ∈ TB := tb_i (tc3 (List.mem_of_getElem? (i := 70) rfl)) rfl
set_option maxRecDepth 20000 in
theorem wd_665 : (.selects RX4 yX4_heightOf yX4_heightOf : Cond) ∈ TB := tb_i (tc3 (List.mem_of_getElem? (i := 71) rfl)) rfl
set_option maxRecDepth 20000 in
theorem wd_666 : (.code yX4_heightOf cX4_heightOf 3 (some .int) : Cond) ∈ TB := tb_i (tc3 (List.mem_of_getElem? (i := 72) rfl)) rfl
set_option maxRecDepth 20000 in
theorem wd_667 : (.methodLink RX4 176 yX2_height : Cond) ∈ TB := tb_i (tc3 (List.mem_of_getElem? (i := 73) rfl)) rfl
set_option maxRecDepth 20000 in
theorem wd_668 : (.methodLink RL 91 yX8_step : Cond) ∈ TB := tb_i (tc5 (List.mem_of_getElem? (i := 193) rfl)) rfl
set_option maxRecDepth 20000 in
theorem wd_669 : (.instanceMethod yX8_step : Cond) ∈ TB := tb_i (tc5 (List.mem_of_getElem? (i := 194) rfl)) rfl
set_option maxRecDepth 20000 in
theorem wd_670 : (.selects RX8 yX8_step yX8_step : Cond) ∈ TB := tb_i (tc5 (List.mem_of_getElem? (i := 195) rfl)) rfl
set_option maxRecDepth 20000 in
theorem wd_671 : (.code yX8_step cX8_step 3 (some .int) : Cond) ∈ TB := tb_i (tc5 (List.mem_of_getElem? (i := 196) rfl)) rfl
set_option maxRecDepth 20000 in
theorem wd_672 : (.methodLink RL 92 yX7_level : Cond) ∈ TB := tb_i (tc3 (List.mem_of_getElem? (i := 74) rfl)) rfl
set_option maxRecDepth 20000 in
theorem wd_673 : (.instanceMethod yX7_level : Cond) ∈ TB := tb_i (tc3 (List.mem_of_getElem? (i := 75) rfl)) rfl
set_option maxRecDepth 20000 in
theorem wd_674 : (.selects RX7 yX7_level yX7_level : Cond) ∈ TB := tb_i (tc3 (List.mem_of_getElem? (i := 76) rfl)) rfl
set_option maxRecDepth 20000 in
theorem wd_675 : (.code yX7_level cX7_level 3 (some .int) : Cond) ∈ TB := tb_i (tc3 (List.mem_of_getElem? (i := 77) rfl)) rfl
set_option maxRecDepth 20000 in
theorem wd_676 : (.fieldLink RX7 215 "CoverRings$Web" "levelSets" "[I" : Cond) ∈ TB := tb_i (tc1 (List.mem_of_getElem? (i := 134) rfl)) rfl
set_option maxRecDepth 20000 in
theorem wd_677 : (.methodLink RL 95 yX8_level : Cond) ∈ TB := tb_i (tc5 (List.mem_of_getElem? (i := 197) rfl)) rfl
set_option maxRecDepth 20000 in
theorem wd_678 : (.instanceMethod yX8_level : Cond) ∈ TB := tb_i (tc5 (List.mem_of_getElem? (i := 198) rfl)) rfl
set_option maxRecDepth 20000 in
theorem wd_679 : (.selects RX8 yX8_level yX8_level : Cond) ∈ TB := tb_i (tc5 (List.mem_of_getElem? (i := 199) rfl)) rfl
set_option maxRecDepth 20000 in
theorem wd_680 : (.code yX8_level cX8_level 5 (some .int) : Cond) ∈ TB := tb_i (tc5 (List.mem_of_getElem? (i := 200) rfl)) rfl
set_option maxRecDepth 20000 in
theorem wd_681 : (.methodLink RL 96 yX7_ring : Cond) ∈ TB := tb_i (tc3 (List.mem_of_getElem? (i := 78) rfl)) rfl
set_option maxRecDepth 20000 in
theorem wd_682 : (.instanceMethod yX7_ring : Cond) ∈ TB := tb_i (tc3 (List.mem_of_getElem? (i := 79) rfl)) rfl
set_option maxRecDepth 20000 in
theorem wd_683 : (.selects RX7 yX7_ring yX7_ring : Cond) ∈ TB := tb_i (tc3 (List.mem_of_getElem? (i := 80) rfl)) rfl
set_option maxRecDepth 20000 in
theorem wd_684 : (.code yX7_ring cX7_ring 3 (some .int) : Cond) ∈ TB := tb_i (tc3 (List.mem_of_getElem? (i := 81) rfl)) rfl
set_option maxRecDepth 20000 in
theorem wd_685 : (.methodLink RX7 218 yX6_ringAt : Cond) ∈ TB := tb_i (tc3 (List.mem_of_getElem? (i := 82) rfl)) rfl
set_option maxRecDepth 20000 in
theorem wd_686 : (.instanceMethod yX6_ringAt : Cond) ∈ TB := tb_i (tc3 (List.mem_of_getElem? (i := 83) rfl)) rfl
set_option maxRecDepth 20000 in
theorem wd_687 : (.selects RX6 yX6_ringAt yX6_ringAt : Cond) ∈ TB := tb_i (tc3 (List.mem_of_getElem? (i := 84) rfl)) rfl
set_option maxRecDepth 20000 in
theorem wd_688 : (.code yX6_ringAt cX6_ringAt 4 (some .int) : Cond) ∈ TB := tb_i (tc3 (List.mem_of_getElem? (i := 85) rfl)) rfl
set_option maxRecDepth 20000 in
theorem wd_689 : (.methodLink RL 99 yX8_ring : Cond) ∈ TB := tb_i (tc5 (List.mem_of_getElem? (i := 201) rfl)) rfl
set_option maxRecDepth 20000 in
theorem wd_690 : (.instanceMethod yX8_ring : Cond) ∈ TB := tb_i (tc5 (List.mem_of_getElem? (i := 202) rfl)) rfl
set_option maxRecDepth 20000 in
theorem wd_691 : (.selects RX8 yX8_ring yX8_ring : Cond) ∈ TB := tb_i (tc5 (List.mem_of_getElem? (i := 203) rfl)) rfl
set_option maxRecDepth 20000 in
theorem wd_692 : (.code yX8_ring cX8_ring 5 (some .int) : Cond) ∈ TB := tb_i (tc5 (List.mem_of_getElem? (i := 204) rfl)) rfl
set_option maxRecDepth 20000 in
theorem wd_693 : (.methodLink RL 100 yX7_way : Cond) ∈ TB := tb_i (tc3 (List.mem_of_getElem? (i := 86) rfl)) rfl
set_option maxRecDepth 20000 in
theorem wd_694 : (.instanceMethod yX7_way : Cond) ∈ TB := tb_i (tc3 (List.mem_of_getElem? (i := 87) rfl)) rfl
set_option maxRecDepth 20000 in
theorem wd_695 : (.selects RX7 yX7_way yX7_way : Cond) ∈ TB := tb_i (tc3 (List.mem_of_getElem? (i := 88) rfl)) rfl
set_option maxRecDepth 20000 in
theorem wd_696 : (.code yX7_way cX7_way 6 (some .int) : Cond) ∈ TB := tb_i (tc3 (List.mem_of_getElem? (i := 89) rfl)) rfl
set_option maxRecDepth 20000 in
theorem wd_697 : (.fieldLink RX7 225 "CoverRings$Way" "row" "[I" : Cond) ∈ TB := tb_i (tc2 (List.mem_of_getElem? (i := 7) rfl)) rfl
set_option maxRecDepth 20000 in
theorem wd_698 : (.methodLink RX7 221 yX5_find : Cond) ∈ TB := tb_i (tc3 (List.mem_of_getElem? (i := 90) rfl)) rfl
set_option maxRecDepth 20000 in
theorem wd_699 : (.instanceMethod yX5_find : Cond) ∈ TB := tb_i (tc3 (List.mem_of_getElem? (i := 91) rfl)) rfl
set_option maxRecDepth 20000 in
theorem wd_700 : (.selects RX5 yX5_find yX5_find : Cond) ∈ TB := tb_i (tc3 (List.mem_of_getElem? (i := 92) rfl)) rfl
set_option maxRecDepth 20000 in
theorem wd_701 : (.code yX5_find cX5_find 6 (some .int) : Cond) ∈ TB := tb_i (tc3 (List.mem_of_getElem? (i := 93) rfl)) rfl
set_option maxRecDepth 20000 in
theorem wd_702 : (.methodLink RX5 18 yX5_measure : Cond) ∈ TB := tb_i (tc3 (List.mem_of_getElem? (i := 94) rfl)) rfl
set_option maxRecDepth 20000 in
theorem wd_703 : (.instanceMethod yX5_measure : Cond) ∈ TB := tb_i (tc3 (List.mem_of_getElem? (i := 96) rfl)) rfl
set_option maxRecDepth 20000 in
theorem wd_704 : (.selects RX5 yX5_measure yX5_measure : Cond) ∈ TB := tb_i (tps (q := (⟨"CoverRings$Way", "measure", "([II)V"⟩, 2)) (List.mem_append_left _ (List.mem_of_getElem? (i := 15) rfl))) rfl
set_option maxRecDepth 20000 in
theorem wd_705 : (.code yX5_measure cX5_measure 7 none : Cond) ∈ TB := tb_i (tc3 (List.mem_of_getElem? (i := 97) rfl)) rfl
set_option maxRecDepth 20000 in
theorem wd_706 : (.methodLink RX5 30 yJ7_fill_53178 : Cond) ∈ TB := tb_i (tc3 (List.mem_of_getElem? (i := 98) rfl)) rfl
set_option maxRecDepth 20000 in
theorem wd_707 : (.methodLink RX5 26 yX5_leastNearer : Cond) ∈ TB := tb_i (tc3 (List.mem_of_getElem? (i := 101) rfl)) rfl
set_option maxRecDepth 20000 in
theorem wd_708 : (.instanceMethod yX5_leastNearer : Cond) ∈ TB := tb_i (tc3 (List.mem_of_getElem? (i := 103) rfl)) rfl
set_option maxRecDepth 20000 in
theorem wd_709 : (.selects RX5 yX5_leastNearer yX5_leastNearer : Cond) ∈ TB := tb_i (tps (q := (⟨"CoverRings$Way", "leastNearer", "([II)I"⟩, 2)) (List.mem_append_right _ (List.mem_append_left _ (List.mem_of_getElem? (i := 0) rfl)))) rfl
set_option maxRecDepth 20000 in
theorem wd_710 : (.code yX5_leastNearer cX5_leastNearer 4 (some .int) : Cond) ∈ TB := tb_i (tc3 (List.mem_of_getElem? (i := 104) rfl)) rfl
set_option maxRecDepth 20000 in
theorem wd_711 : (.methodLink RL 104 yX8_way : Cond) ∈ TB := tb_i (tc5 (List.mem_of_getElem? (i := 205) rfl)) rfl
set_option maxRecDepth 20000 in
theorem wd_712 : (.instanceMethod yX8_way : Cond) ∈ TB := tb_i (tc5 (List.mem_of_getElem? (i := 206) rfl)) rfl
set_option maxRecDepth 20000 in
theorem wd_713 : (.selects RX8 yX8_way yX8_way : Cond) ∈ TB := tb_i (tc5 (List.mem_of_getElem? (i := 207) rfl)) rfl
set_option maxRecDepth 20000 in
theorem wd_714 : (.code yX8_way cX8_way 8 (some .int) : Cond) ∈ TB := tb_i (tc5 (List.mem_of_getElem? (i := 208) rfl)) rfl
set_option maxRecDepth 20000 in
theorem wd_715 : (.methodLink RX8 279 yX8_measures : Cond) ∈ TB := tb_i (tc5 (List.mem_of_getElem? (i := 209) rfl)) rfl
set_option maxRecDepth 20000 in
theorem wd_716 : (.instanceMethod yX8_measures : Cond) ∈ TB := tb_i (tc5 (List.mem_of_getElem? (i := 211) rfl)) rfl
set_option maxRecDepth 20000 in
theorem wd_717 : (.selects RX8 yX8_measures yX8_measures : Cond) ∈ TB := tb_i (tps (q := (⟨"CoverRingsModel", "measures", "(I)V"⟩, 46)) (List.mem_append_right _ (List.mem_append_right _ (List.mem_append_right _ (List.mem_of_getElem? (i := 2) rfl))))) rfl
set_option maxRecDepth 20000 in
theorem wd_718 : (.code yX8_measures cX8_measures 5 none : Cond) ∈ TB := tb_i (tc5 (List.mem_of_getElem? (i := 212) rfl)) rfl
set_option maxRecDepth 20000 in
theorem wd_719 : (.methodLink RL 107 yX7_claimed : Cond) ∈ TB := tb_i (tc3 (List.mem_of_getElem? (i := 105) rfl)) rfl
set_option maxRecDepth 20000 in
theorem wd_720 : (.instanceMethod yX7_claimed : Cond) ∈ TB := tb_i (tc3 (List.mem_of_getElem? (i := 106) rfl)) rfl
set_option maxRecDepth 20000 in
theorem wd_721 : (.selects RX7 yX7_claimed yX7_claimed : Cond) ∈ TB := tb_i (tc3 (List.mem_of_getElem? (i := 107) rfl)) rfl
set_option maxRecDepth 20000 in
theorem wd_722 : (.code yX7_claimed cX7_claimed 5 (some .int) : Cond) ∈ TB := tb_i (tc3 (List.mem_of_getElem? (i := 108) rfl)) rfl
set_option maxRecDepth 20000 in
theorem wd_723 : (.fieldLink RX7 239 "CoverRings$Claim" "paid" "I" : Cond) ∈ TB := tb_i (tc2 (List.mem_of_getElem? (i := 29) rfl)) rfl
set_option maxRecDepth 20000 in
theorem wd_724 : (.fieldLink RX7 242 "CoverRings$Claim" "firsts" "[I" : Cond) ∈ TB := tb_i (tc2 (List.mem_of_getElem? (i := 21) rfl)) rfl
set_option maxRecDepth 20000 in
theorem wd_725 : (.methodLink RX7 228 yX7_isPolicyOrNone : Cond) ∈ TB := tb_i (tc3 (List.mem_of_getElem? (i := 109) rfl)) rfl
set_option maxRecDepth 20000 in
theorem wd_726 : (.instanceMethod yX7_isPolicyOrNone : Cond) ∈ TB := tb_i (tc3 (List.mem_of_getElem? (i := 111) rfl)) rfl
set_option maxRecDepth 20000 in
theorem wd_727 : (.selects RX7 yX7_isPolicyOrNone yX7_isPolicyOrNone : Cond) ∈ TB := tb_i (tps (q := (⟨"CoverRings", "isPolicyOrNone", "(I)Z"⟩, 6)) (List.mem_append_right _ (List.mem_append_left _ (List.mem_of_getElem? (i := 1) rfl)))) rfl
set_option maxRecDepth 20000 in
theorem wd_728 : (.code yX7_isPolicyOrNone cX7_isPolicyOrNone 2 (some .boolean) : Cond) ∈ TB := tb_i (tc3 (List.mem_of_getElem? (i := 112) rfl)) rfl
set_option maxRecDepth 20000 in
theorem wd_729 : (.methodLink RX7 231 yX1_read : Cond) ∈ TB := tb_i (tc3 (List.mem_of_getElem? (i := 113) rfl)) rfl
set_option maxRecDepth 20000 in
theorem wd_730 : (.instanceMethod yX1_read : Cond) ∈ TB := tb_i (tc3 (List.mem_of_getElem? (i := 114) rfl)) rfl
set_option maxRecDepth 20000 in
theorem wd_731 : (.selects RX1 yX1_read yX1_read : Cond) ∈ TB := tb_i (tc3 (List.mem_of_getElem? (i := 115) rfl)) rfl
set_option maxRecDepth 20000 in
theorem wd_732 : (.code yX1_read cX1_read 9 (some .boolean) : Cond) ∈ TB := tb_i (tc3 (List.mem_of_getElem? (i := 116) rfl)) rfl
set_option maxRecDepth 20000 in
theorem wd_733 : (.fieldLink RX1 30 "CoverRings$Claim" "claims" "I" : Cond) ∈ TB := tb_i (tc2 (List.mem_of_getElem? (i := 33) rfl)) rfl
set_option maxRecDepth 20000 in
theorem wd_734 : (.constantLong RX1 34 (9) : Cond) ∈ TB := tb_i (tc3 (List.mem_of_getElem? (i := 117) rfl)) rfl
set_option maxRecDepth 20000 in
theorem wd_735 : (.methodLink RX7 235 yX1_pay : Cond) ∈ TB := tb_i (tc3 (List.mem_of_getElem? (i := 120) rfl)) rfl
set_option maxRecDepth 20000 in
theorem wd_736 : (.instanceMethod yX1_pay : Cond) ∈ TB := tb_i (tc3 (List.mem_of_getElem? (i := 121) rfl)) rfl
set_option maxRecDepth 20000 in
theorem wd_737 : (.selects RX1 yX1_pay yX1_pay : Cond) ∈ TB := tb_i (tc3 (List.mem_of_getElem? (i := 122) rfl)) rfl
set_option maxRecDepth 20000 in
theorem wd_738 : (.code yX1_pay cX1_pay 4 none : Cond) ∈ TB := tb_i (tc3 (List.mem_of_getElem? (i := 123) rfl)) rfl
set_option maxRecDepth 20000 in
theorem wd_739 : (.fieldLink RX1 50 "CoverRings$Claim" "paid" "I" : Cond) ∈ TB := tb_i (tc2 (List.mem_of_getElem? (i := 28) rfl)) rfl
set_option maxRecDepth 20000 in
theorem wd_740 : (.fieldLink RX1 59 "CoverRings$Settlement" "total" "I" : Cond) ∈ TB := tb_i (tc1 (List.mem_of_getElem? (i := 206) rfl)) rfl
set_option maxRecDepth 20000 in
theorem wd_741 : (.methodLink RX1 62 Lib.Math.min.name : Cond) ∈ TB := tb_i (tc3 (List.mem_of_getElem? (i := 129) rfl)) rfl
set_option maxRecDepth 20000 in
theorem wd_742 : (.methodLink RX1 44 yJ7_fill_53178 : Cond) ∈ TB := tb_i (tc3 (List.mem_of_getElem? (i := 124) rfl)) rfl
set_option maxRecDepth 20000 in
theorem wd_743 : (.methodLink RX1 53 yX4_paidFirst : Cond) ∈ TB := tb_i (tc3 (List.mem_of_getElem? (i := 125) rfl)) rfl
set_option maxRecDepth 20000 in
theorem wd_744 : (.instanceMethod yX4_paidFirst : Cond) ∈ TB := tb_i (tc3 (List.mem_of_getElem? (i := 126) rfl)) rfl
set_option maxRecDepth 20000 in
theorem wd_745 : (.selects RX4 yX4_paidFirst yX4_paidFirst : Cond) ∈ TB := tb_i (tc3 (List.mem_of_getElem? (i := 127) rfl)) rfl
set_option maxRecDepth 20000 in
theorem wd_746 : (.code yX4_paidFirst cX4_paidFirst 2 (some .int) : Cond) ∈ TB := tb_i (tc3 (List.mem_of_getElem? (i := 128) rfl)) rfl
set_option maxRecDepth 20000 in
theorem wd_747 : (.methodLink RL 111 yX8_claimed : Cond) ∈ TB := tb_i (tc5 (List.mem_of_getElem? (i := 213) rfl)) rfl
set_option maxRecDepth 20000 in
theorem wd_748 : (.instanceMethod yX8_claimed : Cond) ∈ TB := tb_i (tc5 (List.mem_of_getElem? (i := 214) rfl)) rfl
set_option maxRecDepth 20000 in
theorem wd_749 : (.selects RX8 yX8_claimed yX8_claimed : Cond) ∈ TB := tb_i (tc5 (List.mem_of_getElem? (i := 215) rfl)) rfl
set_option maxRecDepth 20000 in
theorem wd_750 : (.code yX8_claimed cX8_claimed 5 (some .int) : Cond) ∈ TB := tb_i (tc5 (List.mem_of_getElem? (i := 216) rfl)) rfl
set_option maxRecDepth 20000 in
theorem wd_751 : (.fieldLink RX8 282 "CoverRingsModel" "paidAll" "I" : Cond) ∈ TB := tb_i (tc4 (List.mem_of_getElem? (i := 136) rfl)) rfl
set_option maxRecDepth 20000 in
theorem wd_752 : (.methodLink RX8 287 yX8_claims : Cond) ∈ TB := tb_i (tc5 (List.mem_of_getElem? (i := 217) rfl)) rfl
set_option maxRecDepth 20000 in
theorem wd_753 : (.instanceMethod yX8_claims : Cond) ∈ TB := tb_i (tc5 (List.mem_of_getElem? (i := 219) rfl)) rfl
set_option maxRecDepth 20000 in
theorem wd_754 : (.selects RX8 yX8_claims yX8_claims : Cond) ∈ TB := tb_i (tps (q := (⟨"CoverRingsModel", "claims", "(IJ)Z"⟩, 46)) (List.mem_append_right _ (List.mem_append_right _ (List.mem_append_right _ (List.mem_of_getElem? (i := 3) rfl))))) rfl
set_option maxRecDepth 20000 in
theorem wd_755 : (.code yX8_claims cX8_claims 8 (some .boolean) : Cond) ∈ TB := tb_i (tc5 (List.mem_of_getElem? (i := 220) rfl)) rfl
set_option maxRecDepth 20000 in
theorem wd_756 : (.constantLong RX8 285 (9) : Cond) ∈ TB := tb_i (tc5 (List.mem_of_getElem? (i := 221) rfl)) rfl
set_option maxRecDepth 20000 in
theorem wd_757 : (.methodLink RL 112 yX7_recovery : Cond) ∈ TB := tb_i (tc3 (List.mem_of_getElem? (i := 130) rfl)) rfl
set_option maxRecDepth 20000 in
theorem wd_758 : (.instanceMethod yX7_recovery : Cond) ∈ TB := tb_i (tc3 (List.mem_of_getElem? (i := 131) rfl)) rfl
set_option maxRecDepth 20000 in
theorem wd_759 : (.selects RX7 yX7_recovery yX7_recovery : Cond) ∈ TB := tb_i (tc3 (List.mem_of_getElem? (i := 132) rfl)) rfl
set_option maxRecDepth 20000 in
theorem wd_760 : (.code yX7_recovery cX7_recovery 6 (some .int) : Cond) ∈ TB := tb_i (tc3 (List.mem_of_getElem? (i := 133) rfl)) rfl
set_option maxRecDepth 20000 in
theorem wd_761 : (.fieldLink RX7 249 "CoverRings$Claim" "payments" "I" : Cond) ∈ TB := tb_i (tc2 (List.mem_of_getElem? (i := 31) rfl)) rfl
set_option maxRecDepth 20000 in
theorem wd_762 : (.fieldLink RX7 252 "CoverRings$Claim" "payers" "[I" : Cond) ∈ TB := tb_i (tc2 (List.mem_of_getElem? (i := 23) rfl)) rfl
set_option maxRecDepth 20000 in
theorem wd_763 : (.fieldLink RX7 255 "CoverRings$Claim" "payees" "[I" : Cond) ∈ TB := tb_i (tc2 (List.mem_of_getElem? (i := 25) rfl)) rfl
set_option maxRecDepth 20000 in
theorem wd_764 : (.fieldLink RX7 258 "CoverRings$Claim" "sums" "[I" : Cond) ∈ TB := tb_i (tc2 (List.mem_of_getElem? (i := 27) rfl)) rfl
set_option maxRecDepth 20000 in
theorem wd_765 : (.methodLink RX7 245 yX1_recover : Cond) ∈ TB := tb_i (tc3 (List.mem_of_getElem? (i := 134) rfl)) rfl
set_option maxRecDepth 20000 in
theorem wd_766 : (.instanceMethod yX1_recover : Cond) ∈ TB := tb_i (tc3 (List.mem_of_getElem? (i := 135) rfl)) rfl
set_option maxRecDepth 20000 in
theorem wd_767 : (.selects RX1 yX1_recover yX1_recover : Cond) ∈ TB := tb_i (tc3 (List.mem_of_getElem? (i := 136) rfl)) rfl
set_option maxRecDepth 20000 in
theorem wd_768 : (.code yX1_recover cX1_recover 6 none : Cond) ∈ TB := tb_i (tc3 (List.mem_of_getElem? (i := 137) rfl)) rfl
set_option maxRecDepth 20000 in
theorem wd_769 : (.fieldLink RX1 68 "CoverRings$Claim" "payments" "I" : Cond) ∈ TB := tb_i (tc2 (List.mem_of_getElem? (i := 30) rfl)) rfl
set_option maxRecDepth 20000 in
theorem wd_770 : (.methodLink RX1 71 yX1_leastBelow : Cond) ∈ TB := tb_i (tc3 (List.mem_of_getElem? (i := 138) rfl)) rfl
set_option maxRecDepth 20000 in
theorem wd_771 : (.instanceMethod yX1_leastBelow : Cond) ∈ TB := tb_i (tc3 (List.mem_of_getElem? (i := 140) rfl)) rfl
set_option maxRecDepth 20000 in
theorem wd_772 : (.selects RX1 yX1_leastBelow yX1_leastBelow : Cond) ∈ TB := tb_i (tps (q := (⟨"CoverRings$Claim", "leastBelow", "()I"⟩, 9)) (List.mem_append_right _ (List.mem_append_left _ (List.mem_of_getElem? (i := 2) rfl)))) rfl
set_option maxRecDepth 20000 in
theorem wd_773 : (.code yX1_leastBelow cX1_leastBelow 2 (some .int) : Cond) ∈ TB := tb_i (tc3 (List.mem_of_getElem? (i := 141) rfl)) rfl
set_option maxRecDepth 20000 in
theorem wd_774 : (.methodLink RX1 75 yX1_leastAbove : Cond) ∈ TB := tb_i (tc3 (List.mem_of_getElem? (i := 142) rfl)) rfl
set_option maxRecDepth 20000 in
theorem wd_775 : (.instanceMethod yX1_leastAbove : Cond) ∈ TB := tb_i (tc3 (List.mem_of_getElem? (i := 144) rfl)) rfl
set_option maxRecDepth 20000 in
theorem wd_776 : (.selects RX1 yX1_leastAbove yX1_leastAbove : Cond) ∈ TB := tb_i (tps (q := (⟨"CoverRings$Claim", "leastAbove", "()I"⟩, 9)) (List.mem_append_right _ (List.mem_append_left _ (List.mem_of_getElem? (i := 3) rfl)))) rfl
set_option maxRecDepth 20000 in
theorem wd_777 : (.code yX1_leastAbove cX1_leastAbove 2 (some .int) : Cond) ∈ TB := tb_i (tc3 (List.mem_of_getElem? (i := 145) rfl)) rfl
set_option maxRecDepth 20000 in
theorem wd_778 : (.methodLink RX1 78 yX1_settleBetween : Cond) ∈ TB := tb_i (tc3 (List.mem_of_getElem? (i := 146) rfl)) rfl
set_option maxRecDepth 20000 in
theorem wd_779 : (.instanceMethod yX1_settleBetween : Cond) ∈ TB := tb_i (tc3 (List.mem_of_getElem? (i := 148) rfl)) rfl
set_option maxRecDepth 20000 in
theorem wd_780 : (.selects RX1 yX1_settleBetween yX1_settleBetween : Cond) ∈ TB := tb_i (tps (q := (⟨"CoverRings$Claim", "settleBetween", "(II)V"⟩, 9)) (List.mem_append_right _ (List.mem_append_left _ (List.mem_of_getElem? (i := 4) rfl)))) rfl
set_option maxRecDepth 20000 in
theorem wd_781 : (.code yX1_settleBetween cX1_settleBetween 4 none : Cond) ∈ TB := tb_i (tc3 (List.mem_of_getElem? (i := 149) rfl)) rfl
set_option maxRecDepth 20000 in
theorem wd_782 : (.methodLink RX1 82 Lib.Math.abs.name : Cond) ∈ TB := tb_i (tc3 (List.mem_of_getElem? (i := 150) rfl)) rfl
set_option maxRecDepth 20000 in
theorem wd_783 : (.static Lib.Math.abs.name : Cond) ∈ TB := tb_i (tc3 (List.mem_of_getElem? (i := 151) rfl)) rfl
set_option maxRecDepth 20000 in
theorem wd_784 : (.code Lib.Math.abs.name Lib.Math.abs.code 1 (some .int) : Cond) ∈ TB := tb_i (tc3 (List.mem_of_getElem? (i := 152) rfl)) rfl
set_option maxRecDepth 20000 in
theorem wd_785 : (.methodLink RL 116 yX8_recovery : Cond) ∈ TB := tb_i (tc5 (List.mem_of_getElem? (i := 222) rfl)) rfl
set_option maxRecDepth 20000 in
theorem wd_786 : (.instanceMethod yX8_recovery : Cond) ∈ TB := tb_i (tc5 (List.mem_of_getElem? (i := 223) rfl)) rfl
set_option maxRecDepth 20000 in
theorem wd_787 : (.selects RX8 yX8_recovery yX8_recovery : Cond) ∈ TB := tb_i (tc5 (List.mem_of_getElem? (i := 224) rfl)) rfl
set_option maxRecDepth 20000 in
theorem wd_788 : (.code yX8_recovery cX8_recovery 6 (some .int) : Cond) ∈ TB := tb_i (tc5 (List.mem_of_getElem? (i := 225) rfl)) rfl
set_option maxRecDepth 20000 in
theorem wd_789 : (.fieldLink RX8 291 "CoverRingsModel" "moveMany" "I" : Cond) ∈ TB := tb_i (tc4 (List.mem_of_getElem? (i := 139) rfl)) rfl
set_option maxRecDepth 20000 in
theorem wd_790 : (.constantLong RX8 300 (2) : Cond) ∈ TB := tb_i (tc5 (List.mem_of_getElem? (i := 234) rfl)) rfl
set_option maxRecDepth 20000 in
theorem wd_791 : (.methodLink RX8 297 yX8_recovers : Cond) ∈ TB := tb_i (tc5 (List.mem_of_getElem? (i := 226) rfl)) rfl
set_option maxRecDepth 20000 in
theorem wd_792 : (.instanceMethod yX8_recovers : Cond) ∈ TB := tb_i (tc5 (List.mem_of_getElem? (i := 228) rfl)) rfl
set_option maxRecDepth 20000 in
theorem wd_793 : (.selects RX8 yX8_recovers yX8_recovers : Cond) ∈ TB := tb_i (tps (q := (⟨"CoverRingsModel", "recovers", "()V"⟩, 46)) (List.mem_append_right _ (List.mem_append_right _ (List.mem_append_right _ (List.mem_of_getElem? (i := 4) rfl))))) rfl
set_option maxRecDepth 20000 in
theorem wd_794 : (.code yX8_recovers cX8_recovers 4 none : Cond) ∈ TB := tb_i (tc5 (List.mem_of_getElem? (i := 229) rfl)) rfl
set_option maxRecDepth 20000 in
theorem wd_795 : (.methodLink RX8 294 yX8_firstBelow : Cond) ∈ TB := tb_i (tc5 (List.mem_of_getElem? (i := 230) rfl)) rfl
set_option maxRecDepth 20000 in
theorem wd_796 : (.instanceMethod yX8_firstBelow : Cond) ∈ TB := tb_i (tc5 (List.mem_of_getElem? (i := 232) rfl)) rfl
set_option maxRecDepth 20000 in
theorem wd_797 : (.selects RX8 yX8_firstBelow yX8_firstBelow : Cond) ∈ TB := tb_i (tps (q := (⟨"CoverRingsModel", "firstBelow", "()I"⟩, 46)) (List.mem_append_right _ (List.mem_append_right _ (List.mem_append_right _ (List.mem_of_getElem? (i := 5) rfl))))) rfl
set_option maxRecDepth 20000 in
theorem wd_798 : (.code yX8_firstBelow cX8_firstBelow 2 (some .int) : Cond) ∈ TB := tb_i (tc5 (List.mem_of_getElem? (i := 233) rfl)) rfl
set_option maxRecDepth 20000 in
theorem wd_799 : (.methodLink RL 117 yX7_broke : Cond) ∈ TB := tb_i (tc3 (List.mem_of_getElem? (i := 153) rfl)) rfl
set_option maxRecDepth 20000 in
theorem wd_800 : (.instanceMethod yX7_broke : Cond) ∈ TB := tb_i (tc3 (List.mem_of_getElem? (i := 154) rfl)) rfl
set_option maxRecDepth 20000 in
theorem wd_801 : (.selects RX7 yX7_broke yX7_broke : Cond) ∈ TB := tb_i (tc3 (List.mem_of_getElem? (i := 155) rfl)) rfl
set_option maxRecDepth 20000 in
theorem wd_802 : (.code yX7_broke cX7_broke 5 (some .int) : Cond) ∈ TB := tb_i (tc3 (List.mem_of_getElem? (i := 156) rfl)) rfl
set_option maxRecDepth 20000 in
theorem wd_803 : (.fieldLink RX7 271 "CoverRings$Settlement" "divider" "LCoverRings$Divider;" : Cond) ∈ TB := tb_i (tc1 (List.mem_of_getElem? (i := 188) rfl)) rfl
set_option maxRecDepth 20000 in
theorem wd_804 : (.fieldLink RX7 275 "CoverRings$Divider" "parts" "[I" : Cond) ∈ TB := tb_i (tc1 (List.mem_of_getElem? (i := 173) rfl)) rfl
set_option maxRecDepth 20000 in
theorem wd_805 : (.methodLink RX7 261 yX7_isSet : Cond) ∈ TB := tb_i (tc3 (List.mem_of_getElem? (i := 157) rfl)) rfl
set_option maxRecDepth 20000 in
theorem wd_806 : (.instanceMethod yX7_isSet : Cond) ∈ TB := tb_i (tc3 (List.mem_of_getElem? (i := 159) rfl)) rfl
set_option maxRecDepth 20000 in
theorem wd_807 : (.selects RX7 yX7_isSet yX7_isSet : Cond) ∈ TB := tb_i (tps (q := (⟨"CoverRings", "isSet", "(I)Z"⟩, 6)) (List.mem_append_right _ (List.mem_append_left _ (List.mem_of_getElem? (i := 5) rfl)))) rfl
set_option maxRecDepth 20000 in
theorem wd_808 : (.code yX7_isSet cX7_isSet 2 (some .boolean) : Cond) ∈ TB := tb_i (tc3 (List.mem_of_getElem? (i := 160) rfl)) rfl
set_option maxRecDepth 20000 in
theorem wd_809 : (.methodLink RX7 280 yX0_everyone : Cond) ∈ TB := tb_i (tc3 (List.mem_of_getElem? (i := 161) rfl)) rfl
set_option maxRecDepth 20000 in
theorem wd_810 : (.methodLink RX7 264 yX4_makeGood : Cond) ∈ TB := tb_i (tc3 (List.mem_of_getElem? (i := 162) rfl)) rfl
set_option maxRecDepth 20000 in
theorem wd_811 : (.instanceMethod yX4_makeGood : Cond) ∈ TB := tb_i (tc3 (List.mem_of_getElem? (i := 163) rfl)) rfl
set_option maxRecDepth 20000 in
theorem wd_812 : (.selects RX4 yX4_makeGood yX4_makeGood : Cond) ∈ TB := tb_i (tc3 (List.mem_of_getElem? (i := 164) rfl)) rfl
set_option maxRecDepth 20000 in
theorem wd_813 : (.code yX4_makeGood cX4_makeGood 4 (some .int) : Cond) ∈ TB := tb_i (tc3 (List.mem_of_getElem? (i := 165) rfl)) rfl
set_option maxRecDepth 20000 in
theorem wd_814 : (.methodLink RX7 267 yX7_has : Cond) ∈ TB := tb_i (tc3 (List.mem_of_getElem? (i := 166) rfl)) rfl
set_option maxRecDepth 20000 in
theorem wd_815 : (.methodLink RL 120 yX8_broke : Cond) ∈ TB := tb_i (tc5 (List.mem_of_getElem? (i := 235) rfl)) rfl
set_option maxRecDepth 20000 in
theorem wd_816 : (.instanceMethod yX8_broke : Cond) ∈ TB := tb_i (tc5 (List.mem_of_getElem? (i := 236) rfl)) rfl
set_option maxRecDepth 20000 in
theorem wd_817 : (.selects RX8 yX8_broke yX8_broke : Cond) ∈ TB := tb_i (tc5 (List.mem_of_getElem? (i := 237) rfl)) rfl
set_option maxRecDepth 20000 in
theorem wd_818 : (.code yX8_broke cX8_broke 6 (some .int) : Cond) ∈ TB := tb_i (tc5 (List.mem_of_getElem? (i := 238) rfl)) rfl
set_option maxRecDepth 20000 in
theorem wd_819 : (.methodLink RL 121 yX7_without : Cond) ∈ TB := tb_i (tc3 (List.mem_of_getElem? (i := 167) rfl)) rfl
set_option maxRecDepth 20000 in
theorem wd_820 : (.instanceMethod yX7_without : Cond) ∈ TB := tb_i (tc3 (List.mem_of_getElem? (i := 168) rfl)) rfl
set_option maxRecDepth 20000 in
theorem wd_821 : (.selects RX7 yX7_without yX7_without : Cond) ∈ TB := tb_i (tc3 (List.mem_of_getElem? (i := 169) rfl)) rfl
set_option maxRecDepth 20000 in
theorem wd_822 : (.code yX7_without cX7_without 3 (some .int) : Cond) ∈ TB := tb_i (tc3 (List.mem_of_getElem? (i := 170) rfl)) rfl
set_option maxRecDepth 20000 in
theorem wd_823 : (.methodLink RX7 283 yX7_totalOfSet : Cond) ∈ TB := tb_i (tc3 (List.mem_of_getElem? (i := 171) rfl)) rfl
set_option maxRecDepth 20000 in
theorem wd_824 : (.instanceMethod yX7_totalOfSet : Cond) ∈ TB := tb_i (tc3 (List.mem_of_getElem? (i := 173) rfl)) rfl
set_option maxRecDepth 20000 in
theorem wd_825 : (.selects RX7 yX7_totalOfSet yX7_totalOfSet : Cond) ∈ TB := tb_i (tps (q := (⟨"CoverRings", "totalOfSet", "(II)I"⟩, 6)) (List.mem_append_right _ (List.mem_append_left _ (List.mem_of_getElem? (i := 6) rfl)))) rfl
set_option maxRecDepth 20000 in
theorem wd_826 : (.code yX7_totalOfSet cX7_totalOfSet 3 (some .int) : Cond) ∈ TB := tb_i (tc3 (List.mem_of_getElem? (i := 174) rfl)) rfl
set_option maxRecDepth 20000 in
theorem wd_827 : (.fieldLink RX7 335 "CoverRings$Settlement" "present" "I" : Cond) ∈ TB := tb_i (tc1 (List.mem_of_getElem? (i := 190) rfl)) rfl
set_option maxRecDepth 20000 in
theorem wd_828 : (.methodLink RL 124 yX8_without : Cond) ∈ TB := tb_i (tc5 (List.mem_of_getElem? (i := 239) rfl)) rfl
set_option maxRecDepth 20000 in
theorem wd_829 : (.instanceMethod yX8_without : Cond) ∈ TB := tb_i (tc6 (List.mem_of_getElem? (i := 0) rfl)) rfl
set_option maxRecDepth 20000 in
theorem wd_830 : (.selects RX8 yX8_without yX8_without : Cond) ∈ TB := tb_i (tc6 (List.mem_of_getElem? (i := 1) rfl)) rfl
set_option maxRecDepth 20000 in
theorem wd_831 : (.code yX8_without cX8_without 3 (some .int) : Cond) ∈ TB := tb_i (tc6 (List.mem_of_getElem? (i := 2) rfl)) rfl
set_option maxRecDepth 20000 in
theorem wd_832 : (.methodLink RL 125 yX7_other : Cond) ∈ TB := tb_i (tc3 (List.mem_of_getElem? (i := 175) rfl)) rfl
set_option maxRecDepth 20000 in
theorem wd_833 : (.instanceMethod yX7_other : Cond) ∈ TB := tb_i (tc3 (List.mem_of_getElem? (i := 176) rfl)) rfl
set_option maxRecDepth 20000 in
theorem wd_834 : (.selects RX7 yX7_other yX7_other : Cond) ∈ TB := tb_i (tc3 (List.mem_of_getElem? (i := 177) rfl)) rfl
set_option maxRecDepth 20000 in
theorem wd_835 : (.code yX7_other cX7_other 3 (some .int) : Cond) ∈ TB := tb_i (tc3 (List.mem_of_getElem? (i := 178) rfl)) rfl
set_option maxRecDepth 20000 in
theorem wd_836 : (.fieldLink RX7 290 "CoverRings$Settlement" "rule" "I" : Cond) ∈ TB := tb_i (tc1 (List.mem_of_getElem? (i := 192) rfl)) rfl
set_option maxRecDepth 20000 in
theorem wd_837 : (.methodLink RL 128 yX8_other : Cond) ∈ TB := tb_i (tc6 (List.mem_of_getElem? (i := 3) rfl)) rfl
set_option maxRecDepth 20000 in
theorem wd_838 : (.instanceMethod yX8_other : Cond) ∈ TB := tb_i (tc6 (List.mem_of_getElem? (i := 4) rfl)) rfl
set_option maxRecDepth 20000 in
theorem wd_839 : (.selects RX8 yX8_other yX8_other : Cond) ∈ TB := tb_i (tc6 (List.mem_of_getElem? (i := 5) rfl)) rfl
set_option maxRecDepth 20000 in
theorem wd_840 : (.code yX8_other cX8_other 3 (some .int) : Cond) ∈ TB := tb_i (tc6 (List.mem_of_getElem? (i := 6) rfl)) rfl
set_option maxRecDepth 20000 in
theorem wd_841 : (.methodLink RL 129 yX7_set : Cond) ∈ TB := tb_i (tc3 (List.mem_of_getElem? (i := 179) rfl)) rfl
set_option maxRecDepth 20000 in
theorem wd_842 : (.instanceMethod yX7_set : Cond) ∈ TB := tb_i (tc3 (List.mem_of_getElem? (i := 180) rfl)) rfl
set_option maxRecDepth 20000 in
theorem wd_843 : (.selects RX7 yX7_set yX7_set : Cond) ∈ TB := tb_i (tc3 (List.mem_of_getElem? (i := 181) rfl)) rfl
set_option maxRecDepth 20000 in
theorem wd_844 : (.code yX7_set cX7_set 3 (some .int) : Cond) ∈ TB := tb_i (tc3 (List.mem_of_getElem? (i := 182) rfl)) rfl
set_option maxRecDepth 20000 in
theorem wd_845 : (.methodLink RL 132 yX8_set : Cond) ∈ TB := tb_i (tc6 (List.mem_of_getElem? (i := 7) rfl)) rfl
set_option maxRecDepth 20000 in
theorem wd_846 : (.instanceMethod yX8_set : Cond) ∈ TB := tb_i (tc6 (List.mem_of_getElem? (i := 8) rfl)) rfl
set_option maxRecDepth 20000 in
theorem wd_847 : (.selects RX8 yX8_set yX8_set : Cond) ∈ TB := tb_i (tc6 (List.mem_of_getElem? (i := 9) rfl)) rfl
set_option maxRecDepth 20000 in
theorem wd_848 : (.code yX8_set cX8_set 3 (some .int) : Cond) ∈ TB := tb_i (tc6 (List.mem_of_getElem? (i := 10) rfl)) rfl
set_option maxRecDepth 20000 in
theorem wd_849 : (.methodLink RX8 302 yX8_totalOf : Cond) ∈ TB := tb_i (tc6 (List.mem_of_getElem? (i := 11) rfl)) rfl
set_option maxRecDepth 20000 in
theorem wd_850 : (.instanceMethod yX8_totalOf : Cond) ∈ TB := tb_i (tc6 (List.mem_of_getElem? (i := 13) rfl)) rfl
set_option maxRecDepth 20000 in
theorem wd_851 : (.selects RX8 yX8_totalOf yX8_totalOf : Cond) ∈ TB := tb_i (tps (q := (⟨"CoverRingsModel", "totalOf", "(II)I"⟩, 46)) (List.mem_append_right _ (List.mem_append_right _ (List.mem_append_right _ (List.mem_of_getElem? (i := 6) rfl))))) rfl
set_option maxRecDepth 20000 in
theorem wd_852 : (.code yX8_totalOf cX8_totalOf 3 (some .int) : Cond) ∈ TB := tb_i (tc6 (List.mem_of_getElem? (i := 14) rfl)) rfl
set_option maxRecDepth 20000 in
theorem wd_853 : (.methodLink RL 133 yX7_shapley : Cond) ∈ TB := tb_i (tc3 (List.mem_of_getElem? (i := 183) rfl)) rfl
set_option maxRecDepth 20000 in
theorem wd_854 : (.instanceMethod yX7_shapley : Cond) ∈ TB := tb_i (tc3 (List.mem_of_getElem? (i := 184) rfl)) rfl
set_option maxRecDepth 20000 in
theorem wd_855 : (.selects RX7 yX7_shapley yX7_shapley : Cond) ∈ TB := tb_i (tc3 (List.mem_of_getElem? (i := 185) rfl)) rfl
set_option maxRecDepth 20000 in
theorem wd_856 : (.code yX7_shapley cX7_shapley 12 (some .long) : Cond) ∈ TB := tb_i (tc3 (List.mem_of_getElem? (i := 186) rfl)) rfl
set_option maxRecDepth 20000 in
theorem wd_857 : (.fieldLink RX7 299 "CoverRings" "FACTORIALS" "[J" : Cond) ∈ TB := tb_i (tc3 (List.mem_of_getElem? (i := 188) rfl)) rfl
set_option maxRecDepth 20000 in
theorem wd_858 : (.methodLink RX7 294 yJ6_bitCount_0f7a4 : Cond) ∈ TB := tb_i (tc3 (List.mem_of_getElem? (i := 187) rfl)) rfl
set_option maxRecDepth 20000 in
theorem wd_859 : (.methodLink RL 136 yX8_shapley : Cond) ∈ TB := tb_i (tc6 (List.mem_of_getElem? (i := 15) rfl)) rfl
set_option maxRecDepth 20000 in
theorem wd_860 : (.instanceMethod yX8_shapley : Cond) ∈ TB := tb_i (tc6 (List.mem_of_getElem? (i := 16) rfl)) rfl
set_option maxRecDepth 20000 in
theorem wd_861 : (.selects RX8 yX8_shapley yX8_shapley : Cond) ∈ TB := tb_i (tc6 (List.mem_of_getElem? (i := 17) rfl)) rfl
set_option maxRecDepth 20000 in
theorem wd_862 : (.code yX8_shapley cX8_shapley 7 (some .long) : Cond) ∈ TB := tb_i (tc6 (List.mem_of_getElem? (i := 18) rfl)) rfl
set_option maxRecDepth 20000 in
theorem wd_863 : (.methodLink RX8 305 yX8_orders : Cond) ∈ TB := tb_i (tc6 (List.mem_of_getElem? (i := 19) rfl)) rfl
set_option maxRecDepth 20000 in
theorem wd_864 : (.static yX8_orders : Cond) ∈ TB := tb_i (tc6 (List.mem_of_getElem? (i := 20) rfl)) rfl
set_option maxRecDepth 20000 in
theorem wd_865 : (.code yX8_orders cX8_orders 4 (some .long) : Cond) ∈ TB := tb_i (tc6 (List.mem_of_getElem? (i := 21) rfl)) rfl
set_option maxRecDepth 20000 in
theorem wd_866 : (.methodLink RL 137 yX7_returned : Cond) ∈ TB := tb_i (tc3 (List.mem_of_getElem? (i := 190) rfl)) rfl
set_option maxRecDepth 20000 in
theorem wd_867 : (.instanceMethod yX7_returned : Cond) ∈ TB := tb_i (tc3 (List.mem_of_getElem? (i := 191) rfl)) rfl
set_option maxRecDepth 20000 in
theorem wd_868 : (.selects RX7 yX7_returned yX7_returned : Cond) ∈ TB := tb_i (tc3 (List.mem_of_getElem? (i := 192) rfl)) rfl
set_option maxRecDepth 20000 in
theorem wd_869 : (.code yX7_returned cX7_returned 7 (some .int) : Cond) ∈ TB := tb_i (tc3 (List.mem_of_getElem? (i := 193) rfl)) rfl
set_option maxRecDepth 20000 in
theorem wd_870 : (.methodLink RX7 306 Lib.MathLoose.max_long.x : Cond) ∈ TB := tb_i (tc3 (List.mem_of_getElem? (i := 199) rfl)) rfl
set_option maxRecDepth 20000 in
theorem wd_871 : (.static Lib.MathLoose.max_long.x : Cond) ∈ TB := tb_i (tc3 (List.mem_of_getElem? (i := 200) rfl)) rfl
set_option maxRecDepth 20000 in
theorem wd_872 : (.code Lib.MathLoose.max_long.x Lib.MathLoose.max_long.code 4 (some .long) : Cond) ∈ TB := tb_i (tc3 (List.mem_of_getElem? (i := 201) rfl)) rfl
set_option maxRecDepth 20000 in
theorem wd_873 : (.methodLink RX7 303 yX0_limitsOn : Cond) ∈ TB := tb_i (tc3 (List.mem_of_getElem? (i := 194) rfl)) rfl
set_option maxRecDepth 20000 in
theorem wd_874 : (.instanceMethod yX0_limitsOn : Cond) ∈ TB := tb_i (tc3 (List.mem_of_getElem? (i := 195) rfl)) rfl
set_option maxRecDepth 20000 in
theorem wd_875 : (.selects RX0 yX0_limitsOn yX0_limitsOn : Cond) ∈ TB := tb_i (tc3 (List.mem_of_getElem? (i := 196) rfl)) rfl
set_option maxRecDepth 20000 in
theorem wd_876 : (.code yX0_limitsOn cX0_limitsOn 4 (some .int) : Cond) ∈ TB := tb_i (tc3 (List.mem_of_getElem? (i := 197) rfl)) rfl
set_option maxRecDepth 20000 in
theorem wd_877 : (.methodLink RL 140 yX8_returned : Cond) ∈ TB := tb_i (tc6 (List.mem_of_getElem? (i := 22) rfl)) rfl
set_option maxRecDepth 20000 in
theorem wd_878 : (.instanceMethod yX8_returned : Cond) ∈ TB := tb_i (tc6 (List.mem_of_getElem? (i := 23) rfl)) rfl
set_option maxRecDepth 20000 in
theorem wd_879 : (.selects RX8 yX8_returned yX8_returned : Cond) ∈ TB := tb_i (tc6 (List.mem_of_getElem? (i := 24) rfl)) rfl
set_option maxRecDepth 20000 in
theorem wd_880 : (.code yX8_returned cX8_returned 7 (some .int) : Cond) ∈ TB := tb_i (tc6 (List.mem_of_getElem? (i := 25) rfl)) rfl
set_option maxRecDepth 20000 in
theorem wd_881 : (.methodLink RX8 308 yX8_limitsOf : Cond) ∈ TB := tb_i (tc6 (List.mem_of_getElem? (i := 26) rfl)) rfl
set_option maxRecDepth 20000 in
theorem wd_882 : (.instanceMethod yX8_limitsOf : Cond) ∈ TB := tb_i (tc6 (List.mem_of_getElem? (i := 28) rfl)) rfl
set_option maxRecDepth 20000 in
theorem wd_883 : (.selects RX8 yX8_limitsOf yX8_limitsOf : Cond) ∈ TB := tb_i (tps (q := (⟨"CoverRingsModel", "limitsOf", "(I)J"⟩, 46)) (List.mem_append_right _ (List.mem_append_right _ (List.mem_append_right _ (List.mem_of_getElem? (i := 7) rfl))))) rfl
set_option maxRecDepth 20000 in
theorem wd_884 : (.code yX8_limitsOf cX8_limitsOf 5 (some .long) : Cond) ∈ TB := tb_i (tc6 (List.mem_of_getElem? (i := 29) rfl)) rfl
set_option maxRecDepth 20000 in
theorem wd_885 : (.methodLink RL 141 yX7_ringless : Cond) ∈ TB := tb_i (tc3 (List.mem_of_getElem? (i := 202) rfl)) rfl
set_option maxRecDepth 20000 in
theorem wd_886 : (.instanceMethod yX7_ringless : Cond) ∈ TB := tb_i (tc3 (List.mem_of_getElem? (i := 203) rfl)) rfl
set_option maxRecDepth 20000 in
theorem wd_887 : (.selects RX7 yX7_ringless yX7_ringless : Cond) ∈ TB := tb_i (tc3 (List.mem_of_getElem? (i := 204) rfl)) rfl
set_option maxRecDepth 20000 in
theorem wd_888 : (.code yX7_ringless cX7_ringless 4 (some .int) : Cond) ∈ TB := tb_i (tc3 (List.mem_of_getElem? (i := 205) rfl)) rfl
set_option maxRecDepth 20000 in
theorem wd_889 : (.methodLink RX7 312 yX6_fewestPlain : Cond) ∈ TB := tb_i (tc3 (List.mem_of_getElem? (i := 206) rfl)) rfl
set_option maxRecDepth 20000 in
theorem wd_890 : (.instanceMethod yX6_fewestPlain : Cond) ∈ TB := tb_i (tc3 (List.mem_of_getElem? (i := 207) rfl)) rfl
set_option maxRecDepth 20000 in
theorem wd_891 : (.selects RX6 yX6_fewestPlain yX6_fewestPlain : Cond) ∈ TB := tb_i (tc3 (List.mem_of_getElem? (i := 208) rfl)) rfl
set_option maxRecDepth 20000 in
theorem wd_892 : (.code yX6_fewestPlain cX6_fewestPlain 4 (some .int) : Cond) ∈ TB := tb_i (tc3 (List.mem_of_getElem? (i := 209) rfl)) rfl
set_option maxRecDepth 20000 in
theorem wd_893 : (.methodLink RX6 69 yX6_isRinglessWith : Cond) ∈ TB := tb_i (tc3 (List.mem_of_getElem? (i := 210) rfl)) rfl
set_option maxRecDepth 20000 in
theorem wd_894 : (.instanceMethod yX6_isRinglessWith : Cond) ∈ TB := tb_i (tc3 (List.mem_of_getElem? (i := 212) rfl)) rfl
set_option maxRecDepth 20000 in
theorem wd_895 : (.selects RX6 yX6_isRinglessWith yX6_isRinglessWith : Cond) ∈ TB := tb_i (tps (q := (⟨"CoverRings$Web", "isRinglessWith", "(I)Z"⟩, 9)) (List.mem_append_right _ (List.mem_append_left _ (List.mem_of_getElem? (i := 7) rfl)))) rfl
set_option maxRecDepth 20000 in
theorem wd_896 : (.code yX6_isRinglessWith cX6_isRinglessWith 5 (some .boolean) : Cond) ∈ TB := tb_i (tc3 (List.mem_of_getElem? (i := 213) rfl)) rfl
set_option maxRecDepth 20000 in
theorem wd_897 : (.methodLink RL 145 yX8_ringless : Cond) ∈ TB := tb_i (tc6 (List.mem_of_getElem? (i := 30) rfl)) rfl
set_option maxRecDepth 20000 in
theorem wd_898 : (.instanceMethod yX8_ringless : Cond) ∈ TB := tb_i (tc6 (List.mem_of_getElem? (i := 31) rfl)) rfl
set_option maxRecDepth 20000 in
theorem wd_899 : (.selects RX8 yX8_ringless yX8_ringless : Cond) ∈ TB := tb_i (tc6 (List.mem_of_getElem? (i := 32) rfl)) rfl
set_option maxRecDepth 20000 in
theorem wd_900 : (.code yX8_ringless cX8_ringless 5 (some .int) : Cond) ∈ TB := tb_i (tc6 (List.mem_of_getElem? (i := 33) rfl)) rfl
set_option maxRecDepth 20000 in
theorem wd_901 : (.methodLink RX8 311 yX8_hasRing : Cond) ∈ TB := tb_i (tc6 (List.mem_of_getElem? (i := 34) rfl)) rfl
set_option maxRecDepth 20000 in
theorem wd_902 : (.instanceMethod yX8_hasRing : Cond) ∈ TB := tb_i (tc6 (List.mem_of_getElem? (i := 36) rfl)) rfl
set_option maxRecDepth 20000 in
theorem wd_903 : (.selects RX8 yX8_hasRing yX8_hasRing : Cond) ∈ TB := tb_i (tps (q := (⟨"CoverRingsModel", "hasRing", "(I[I)Z"⟩, 46)) (List.mem_append_right _ (List.mem_append_right _ (List.mem_append_right _ (List.mem_of_getElem? (i := 8) rfl))))) rfl
set_option maxRecDepth 20000 in
theorem wd_904 : (.code yX8_hasRing cX8_hasRing 4 (some .boolean) : Cond) ∈ TB := tb_i (tc6 (List.mem_of_getElem? (i := 37) rfl)) rfl
set_option maxRecDepth 20000 in
theorem wd_905 : (.methodLink RL 146 yX7_fewest : Cond) ∈ TB := tb_i (tc3 (List.mem_of_getElem? (i := 214) rfl)) rfl
set_option maxRecDepth 20000 in
theorem wd_906 : (.instanceMethod yX7_fewest : Cond) ∈ TB := tb_i (tc3 (List.mem_of_getElem? (i := 215) rfl)) rfl
set_option maxRecDepth 20000 in
theorem wd_907 : (.selects RX7 yX7_fewest yX7_fewest : Cond) ∈ TB := tb_i (tc3 (List.mem_of_getElem? (i := 216) rfl)) rfl
set_option maxRecDepth 20000 in
theorem wd_908 : (.code yX7_fewest cX7_fewest 4 (some .int) : Cond) ∈ TB := tb_i (tc3 (List.mem_of_getElem? (i := 217) rfl)) rfl
set_option maxRecDepth 20000 in
theorem wd_909 : (.methodLink RX7 315 yX4_fewestClaimed : Cond) ∈ TB := tb_i (tc3 (List.mem_of_getElem? (i := 218) rfl)) rfl
set_option maxRecDepth 20000 in
theorem wd_910 : (.instanceMethod yX4_fewestClaimed : Cond) ∈ TB := tb_i (tc3 (List.mem_of_getElem? (i := 219) rfl)) rfl
set_option maxRecDepth 20000 in
theorem wd_911 : (.selects RX4 yX4_fewestClaimed yX4_fewestClaimed : Cond) ∈ TB := tb_i (tc3 (List.mem_of_getElem? (i := 220) rfl)) rfl
set_option maxRecDepth 20000 in
theorem wd_912 : (.code yX4_fewestClaimed cX4_fewestClaimed 4 (some .int) : Cond) ∈ TB := tb_i (tc3 (List.mem_of_getElem? (i := 221) rfl)) rfl
set_option maxRecDepth 20000 in
theorem wd_913 : (.methodLink RX4 180 yJ6_bitCount_0f7a4 : Cond) ∈ TB := tb_i (tc3 (List.mem_of_getElem? (i := 222) rfl)) rfl
set_option maxRecDepth 20000 in
theorem wd_914 : (.methodLink RX4 185 yX4_isEnough : Cond) ∈ TB := tb_i (tc3 (List.mem_of_getElem? (i := 223) rfl)) rfl
set_option maxRecDepth 20000 in
theorem wd_915 : (.instanceMethod yX4_isEnough : Cond) ∈ TB := tb_i (tc3 (List.mem_of_getElem? (i := 225) rfl)) rfl
set_option maxRecDepth 20000 in
theorem wd_916 : (.selects RX4 yX4_isEnough yX4_isEnough : Cond) ∈ TB := tb_i (tps (q := (⟨"CoverRings$Settlement", "isEnough", "(I)Z"⟩, 14)) (List.mem_append_right _ (List.mem_append_left _ (List.mem_of_getElem? (i := 8) rfl)))) rfl
set_option maxRecDepth 20000 in
theorem wd_917 : (.code yX4_isEnough cX4_isEnough 4 (some .boolean) : Cond) ∈ TB := tb_i (tc3 (List.mem_of_getElem? (i := 226) rfl)) rfl
set_option maxRecDepth 20000 in
theorem wd_918 : (.methodLink RX4 189 yX4_paidFirst : Cond) ∈ TB := tb_i (tc3 (List.mem_of_getElem? (i := 227) rfl)) rfl
set_option maxRecDepth 20000 in
theorem wd_919 : (.methodLink RL 149 yX8_fewest : Cond) ∈ TB := tb_i (tc6 (List.mem_of_getElem? (i := 38) rfl)) rfl
set_option maxRecDepth 20000 in
theorem wd_920 : (.instanceMethod yX8_fewest : Cond) ∈ TB := tb_i (tc6 (List.mem_of_getElem? (i := 39) rfl)) rfl
set_option maxRecDepth 20000 in
theorem wd_921 : (.selects RX8 yX8_fewest yX8_fewest : Cond) ∈ TB := tb_i (tc6 (List.mem_of_getElem? (i := 40) rfl)) rfl
set_option maxRecDepth 20000 in
theorem wd_922 : (.code yX8_fewest cX8_fewest 8 (some .int) : Cond) ∈ TB := tb_i (tc6 (List.mem_of_getElem? (i := 41) rfl)) rfl
set_option maxRecDepth 20000 in
theorem wd_923 : (.methodLink RL 150 yX7_moved : Cond) ∈ TB := tb_i (tc3 (List.mem_of_getElem? (i := 228) rfl)) rfl
set_option maxRecDepth 20000 in
theorem wd_924 : (.instanceMethod yX7_moved : Cond) ∈ TB := tb_i (tc3 (List.mem_of_getElem? (i := 229) rfl)) rfl
set_option maxRecDepth 20000 in
theorem wd_925 : (.selects RX7 yX7_moved yX7_moved : Cond) ∈ TB := tb_i (tc3 (List.mem_of_getElem? (i := 230) rfl)) rfl
set_option maxRecDepth 20000 in
theorem wd_926 : (.code yX7_moved cX7_moved 6 (some .int) : Cond) ∈ TB := tb_i (tc3 (List.mem_of_getElem? (i := 231) rfl)) rfl
set_option maxRecDepth 20000 in
theorem wd_927 : (.methodLink RX7 318 arraycopyName : Cond) ∈ TB := tb_i (tc3 (List.mem_of_getElem? (i := 232) rfl)) rfl
set_option maxRecDepth 20000 in
theorem wd_928 : (.fieldLink RX7 324 "CoverRings$Web" "kinds" "[I" : Cond) ∈ TB := tb_i (tc1 (List.mem_of_getElem? (i := 124) rfl)) rfl
set_option maxRecDepth 20000 in
theorem wd_929 : (.methodLink RL 153 yX8_moved : Cond) ∈ TB := tb_i (tc6 (List.mem_of_getElem? (i := 42) rfl)) rfl
set_option maxRecDepth 20000 in
theorem wd_930 : (.instanceMethod yX8_moved : Cond) ∈ TB := tb_i (tc6 (List.mem_of_getElem? (i := 43) rfl)) rfl
set_option maxRecDepth 20000 in
theorem wd_931 : (.selects RX8 yX8_moved yX8_moved : Cond) ∈ TB := tb_i (tc6 (List.mem_of_getElem? (i := 44) rfl)) rfl
set_option maxRecDepth 20000 in
theorem wd_932 : (.code yX8_moved cX8_moved 7 (some .int) : Cond) ∈ TB := tb_i (tc6 (List.mem_of_getElem? (i := 45) rfl)) rfl
set_option maxRecDepth 20000 in
theorem wd_933 : (.methodLink RL 154 yX7_file : Cond) ∈ TB := tb_i (tc3 (List.mem_of_getElem? (i := 233) rfl)) rfl
set_option maxRecDepth 20000 in
theorem wd_934 : (.instanceMethod yX7_file : Cond) ∈ TB := tb_i (tc3 (List.mem_of_getElem? (i := 234) rfl)) rfl
set_option maxRecDepth 20000 in
theorem wd_935 : (.selects RX7 yX7_file yX7_file : Cond) ∈ TB := tb_i (tc3 (List.mem_of_getElem? (i := 235) rfl)) rfl
set_option maxRecDepth 20000 in
theorem wd_936 : (.code yX7_file cX7_file 4 (some .int) : Cond) ∈ TB := tb_i (tc3 (List.mem_of_getElem? (i := 236) rfl)) rfl
set_option maxRecDepth 20000 in
theorem wd_937 : (.methodLink RX7 325 yX7_isPlace : Cond) ∈ TB := tb_i (tc3 (List.mem_of_getElem? (i := 237) rfl)) rfl
set_option maxRecDepth 20000 in
theorem wd_938 : (.static yX7_isPlace : Cond) ∈ TB := tb_i (tc3 (List.mem_of_getElem? (i := 238) rfl)) rfl
set_option maxRecDepth 20000 in
theorem wd_939 : (.code yX7_isPlace cX7_isPlace 2 (some .boolean) : Cond) ∈ TB := tb_i (tc3 (List.mem_of_getElem? (i := 239) rfl)) rfl
set_option maxRecDepth 20000 in
theorem wd_940 : (.methodLink RX7 328 yX3_put : Cond) ∈ TB := tb_i (tc4 (List.mem_of_getElem? (i := 0) rfl)) rfl
set_option maxRecDepth 20000 in
theorem wd_941 : (.instanceMethod yX3_put : Cond) ∈ TB := tb_i (tc4 (List.mem_of_getElem? (i := 1) rfl)) rfl
set_option maxRecDepth 20000 in
theorem wd_942 : (.selects RX3 yX3_put yX3_put : Cond) ∈ TB := tb_i (tc4 (List.mem_of_getElem? (i := 2) rfl)) rfl
set_option maxRecDepth 20000 in
theorem wd_943 : (.code yX3_put cX3_put 4 none : Cond) ∈ TB := tb_i (tc4 (List.mem_of_getElem? (i := 3) rfl)) rfl
set_option maxRecDepth 20000 in
theorem wd_944 : (.methodLink RL 157 yX8_file : Cond) ∈ TB := tb_i (tc6 (List.mem_of_getElem? (i := 46) rfl)) rfl
set_option maxRecDepth 20000 in
theorem wd_945 : (.instanceMethod yX8_file : Cond) ∈ TB := tb_i (tc6 (List.mem_of_getElem? (i := 47) rfl)) rfl
set_option maxRecDepth 20000 in
theorem wd_946 : (.selects RX8 yX8_file yX8_file : Cond) ∈ TB := tb_i (tc6 (List.mem_of_getElem? (i := 48) rfl)) rfl
set_option maxRecDepth 20000 in
theorem wd_947 : (.code yX8_file cX8_file 4 (some .int) : Cond) ∈ TB := tb_i (tc6 (List.mem_of_getElem? (i := 49) rfl)) rfl
set_option maxRecDepth 20000 in
theorem wd_948 : (.methodLink RX8 315 yX8_isPlace : Cond) ∈ TB := tb_i (tc6 (List.mem_of_getElem? (i := 50) rfl)) rfl
set_option maxRecDepth 20000 in
theorem wd_949 : (.static yX8_isPlace : Cond) ∈ TB := tb_i (tc6 (List.mem_of_getElem? (i := 51) rfl)) rfl
set_option maxRecDepth 20000 in
theorem wd_950 : (.code yX8_isPlace cX8_isPlace 2 (some .boolean) : Cond) ∈ TB := tb_i (tc6 (List.mem_of_getElem? (i := 52) rfl)) rfl
set_option maxRecDepth 20000 in
theorem wd_951 : (.methodLink RL 158 yX7_filed : Cond) ∈ TB := tb_i (tc4 (List.mem_of_getElem? (i := 4) rfl)) rfl
set_option maxRecDepth 20000 in
theorem wd_952 : (.instanceMethod yX7_filed : Cond) ∈ TB := tb_i (tc4 (List.mem_of_getElem? (i := 5) rfl)) rfl
set_option maxRecDepth 20000 in
theorem wd_953 : (.selects RX7 yX7_filed yX7_filed : Cond) ∈ TB := tb_i (tc4 (List.mem_of_getElem? (i := 6) rfl)) rfl
set_option maxRecDepth 20000 in
theorem wd_954 : (.code yX7_filed cX7_filed 5 (some .int) : Cond) ∈ TB := tb_i (tc4 (List.mem_of_getElem? (i := 7) rfl)) rfl
set_option maxRecDepth 20000 in
theorem wd_955 : (.fieldLink RX7 332 "CoverRings$Drawers" "policies" "[I" : Cond) ∈ TB := tb_i (tc2 (List.mem_of_getElem? (i := 62) rfl)) rfl
set_option maxRecDepth 20000 in
theorem wd_956 : (.fieldLink RX7 334 "CoverRings$Drawers" "tos" "[I" : Cond) ∈ TB := tb_i (tc2 (List.mem_of_getElem? (i := 64) rfl)) rfl
set_option maxRecDepth 20000 in
theorem wd_957 : (.methodLink RL 162 yX8_filed : Cond) ∈ TB := tb_i (tc6 (List.mem_of_getElem? (i := 53) rfl)) rfl
set_option maxRecDepth 20000 in
theorem wd_958 : (.instanceMethod yX8_filed : Cond) ∈ TB := tb_i (tc6 (List.mem_of_getElem? (i := 54) rfl)) rfl
set_option maxRecDepth 20000 in
theorem wd_959 : (.selects RX8 yX8_filed yX8_filed : Cond) ∈ TB := tb_i (tc6 (List.mem_of_getElem? (i := 55) rfl)) rfl
set_option maxRecDepth 20000 in
theorem wd_960 : (.code yX8_filed cX8_filed 5 (some .int) : Cond) ∈ TB := tb_i (tc6 (List.mem_of_getElem? (i := 56) rfl)) rfl
theorem iuX0 : ∀ w ∈ wsX00, w ∈ TB := fun w h => by
  obtain ⟨k, hk, rfl⟩ := List.mem_map.mp h
  have hk := List.mem_range.mp hk
  match k, hk with
  | 0, _ => exact tb_i (tc1 (List.mem_of_getElem? (i := 84) rfl)) rfl
  | 1, _ => exact tb_i (tc1 (List.mem_of_getElem? (i := 86) rfl)) rfl
  | 2, _ => exact tb_i (tc1 (List.mem_of_getElem? (i := 88) rfl)) rfl
  | 3, _ => exact tb_i (tc1 (List.mem_of_getElem? (i := 90) rfl)) rfl
  | 4, _ => exact tb_i (tc1 (List.mem_of_getElem? (i := 92) rfl)) rfl
  | 5, _ => exact tb_i (tc1 (List.mem_of_getElem? (i := 94) rfl)) rfl
  | 6, _ => exact tb_i (tc1 (List.mem_of_getElem? (i := 96) rfl)) rfl
  | 7, _ => exact tb_i (tc1 (List.mem_of_getElem? (i := 98) rfl)) rfl
  | 8, _ => exact tb_i (tc1 (List.mem_of_getElem? (i := 100) rfl)) rfl
  | 9, _ => exact tb_i (tc1 (List.mem_of_getElem? (i := 102) rfl)) rfl
  | 10, _ => exact tb_i (tc1 (List.mem_of_getElem? (i := 104) rfl)) rfl
  | 11, _ => exact tb_i (tc1 (List.mem_of_getElem? (i := 106) rfl)) rfl
  | 12, _ => exact tb_i (tc1 (List.mem_of_getElem? (i := 108) rfl)) rfl
  | 13, _ => exact tb_i (tc1 (List.mem_of_getElem? (i := 110) rfl)) rfl
  | 14, _ => exact tb_i (tc1 (List.mem_of_getElem? (i := 112) rfl)) rfl
  | n + 15, h => exact absurd h (by omega)
theorem inX0 : ∀ w ∈ wsX00, w ∈ lw_tbl := fun w h => tb_l (iuX0 w h)
theorem iuX1 : ∀ w ∈ wsX10, w ∈ TB := fun w h => by
  obtain ⟨k, hk, rfl⟩ := List.mem_map.mp h
  have hk := List.mem_range.mp hk
  match k, hk with
  | 0, _ => exact tb_i (tc2 (List.mem_of_getElem? (i := 35) rfl)) rfl
  | 1, _ => exact tb_i (tc2 (List.mem_of_getElem? (i := 37) rfl)) rfl
  | 2, _ => exact tb_i (tc2 (List.mem_of_getElem? (i := 39) rfl)) rfl
  | 3, _ => exact tb_i (tc2 (List.mem_of_getElem? (i := 41) rfl)) rfl
  | 4, _ => exact tb_i (tc2 (List.mem_of_getElem? (i := 43) rfl)) rfl
  | 5, _ => exact tb_i (tc2 (List.mem_of_getElem? (i := 45) rfl)) rfl
  | 6, _ => exact tb_i (tc2 (List.mem_of_getElem? (i := 47) rfl)) rfl
  | 7, _ => exact tb_i (tc2 (List.mem_of_getElem? (i := 49) rfl)) rfl
  | 8, _ => exact tb_i (tc2 (List.mem_of_getElem? (i := 51) rfl)) rfl
  | n + 9, h => exact absurd h (by omega)
theorem inX1 : ∀ w ∈ wsX10, w ∈ lw_tbl := fun w h => tb_l (iuX1 w h)
theorem iuX2 : ∀ w ∈ wsX20, w ∈ TB := fun w h => by
  obtain ⟨k, hk, rfl⟩ := List.mem_map.mp h
  have hk := List.mem_range.mp hk
  match k, hk with
  | 0, _ => exact tb_i (tc1 (List.mem_of_getElem? (i := 175) rfl)) rfl
  | 1, _ => exact tb_i (tc1 (List.mem_of_getElem? (i := 177) rfl)) rfl
  | 2, _ => exact tb_i (tc1 (List.mem_of_getElem? (i := 179) rfl)) rfl
  | n + 3, h => exact absurd h (by omega)
theorem inX2 : ∀ w ∈ wsX20, w ∈ lw_tbl := fun w h => tb_l (iuX2 w h)
theorem iuX3 : ∀ w ∈ wsX30, w ∈ TB := fun w h => by
  obtain ⟨k, hk, rfl⟩ := List.mem_map.mp h
  have hk := List.mem_range.mp hk
  match k, hk with
  | 0, _ => exact tb_i (tc2 (List.mem_of_getElem? (i := 65) rfl)) rfl
  | 1, _ => exact tb_i (tc2 (List.mem_of_getElem? (i := 67) rfl)) rfl
  | n + 2, h => exact absurd h (by omega)
theorem inX3 : ∀ w ∈ wsX30, w ∈ lw_tbl := fun w h => tb_l (iuX3 w h)
theorem iuX4 : ∀ w ∈ wsX40, w ∈ TB := fun w h => by
  obtain ⟨k, hk, rfl⟩ := List.mem_map.mp h
  have hk := List.mem_range.mp hk
  match k, hk with
  | 0, _ => exact tb_i (tc1 (List.mem_of_getElem? (i := 211) rfl)) rfl
  | 1, _ => exact tb_i (tc1 (List.mem_of_getElem? (i := 213) rfl)) rfl
  | 2, _ => exact tb_i (tc1 (List.mem_of_getElem? (i := 215) rfl)) rfl
  | 3, _ => exact tb_i (tc1 (List.mem_of_getElem? (i := 217) rfl)) rfl
  | 4, _ => exact tb_i (tc1 (List.mem_of_getElem? (i := 219) rfl)) rfl
  | 5, _ => exact tb_i (tc1 (List.mem_of_getElem? (i := 221) rfl)) rfl
  | 6, _ => exact tb_i (tc1 (List.mem_of_getElem? (i := 223) rfl)) rfl
  | 7, _ => exact tb_i (tc1 (List.mem_of_getElem? (i := 225) rfl)) rfl
  | 8, _ => exact tb_i (tc1 (List.mem_of_getElem? (i := 227) rfl)) rfl
  | 9, _ => exact tb_i (tc1 (List.mem_of_getElem? (i := 229) rfl)) rfl
  | 10, _ => exact tb_i (tc1 (List.mem_of_getElem? (i := 231) rfl)) rfl
  | 11, _ => exact tb_i (tc1 (List.mem_of_getElem? (i := 233) rfl)) rfl
  | 12, _ => exact tb_i (tc1 (List.mem_of_getElem? (i := 235) rfl)) rfl
  | 13, _ => exact tb_i (tc1 (List.mem_of_getElem? (i := 237) rfl)) rfl
  | n + 14, h => exact absurd h (by omega)
theorem inX4 : ∀ w ∈ wsX40, w ∈ lw_tbl := fun w h => tb_l (iuX4 w h)
theorem iuX5 : ∀ w ∈ wsX50, w ∈ TB := fun w h => by
  obtain ⟨k, hk, rfl⟩ := List.mem_map.mp h
  have hk := List.mem_range.mp hk
  match k, hk with
  | 0, _ => exact tb_i (tc2 (List.mem_of_getElem? (i := 9) rfl)) rfl
  | 1, _ => exact tb_i (tc2 (List.mem_of_getElem? (i := 11) rfl)) rfl
  | n + 2, h => exact absurd h (by omega)
theorem inX5 : ∀ w ∈ wsX50, w ∈ lw_tbl := fun w h => tb_l (iuX5 w h)
theorem iuX6 : ∀ w ∈ wsX60, w ∈ TB := fun w h => by
  obtain ⟨k, hk, rfl⟩ := List.mem_map.mp h
  have hk := List.mem_range.mp hk
  match k, hk with
  | 0, _ => exact tb_i (tc1 (List.mem_of_getElem? (i := 144) rfl)) rfl
  | 1, _ => exact tb_i (tc1 (List.mem_of_getElem? (i := 146) rfl)) rfl
  | 2, _ => exact tb_i (tc1 (List.mem_of_getElem? (i := 148) rfl)) rfl
  | 3, _ => exact tb_i (tc1 (List.mem_of_getElem? (i := 150) rfl)) rfl
  | 4, _ => exact tb_i (tc1 (List.mem_of_getElem? (i := 152) rfl)) rfl
  | 5, _ => exact tb_i (tc1 (List.mem_of_getElem? (i := 154) rfl)) rfl
  | 6, _ => exact tb_i (tc1 (List.mem_of_getElem? (i := 156) rfl)) rfl
  | 7, _ => exact tb_i (tc1 (List.mem_of_getElem? (i := 158) rfl)) rfl
  | 8, _ => exact tb_i (tc1 (List.mem_of_getElem? (i := 160) rfl)) rfl
  | n + 9, h => exact absurd h (by omega)
theorem inX6 : ∀ w ∈ wsX60, w ∈ lw_tbl := fun w h => tb_l (iuX6 w h)
theorem iuX7 : ∀ w ∈ wsX70, w ∈ TB := fun w h => by
  obtain ⟨k, hk, rfl⟩ := List.mem_map.mp h
  have hk := List.mem_range.mp hk
  match k, hk with
  | 0, _ => exact tb_i (tc2 (List.mem_of_getElem? (i := 76) rfl)) rfl
  | 1, _ => exact tb_i (tc2 (List.mem_of_getElem? (i := 78) rfl)) rfl
  | 2, _ => exact tb_i (tc2 (List.mem_of_getElem? (i := 80) rfl)) rfl
  | 3, _ => exact tb_i (tc2 (List.mem_of_getElem? (i := 82) rfl)) rfl
  | 4, _ => exact tb_i (tc2 (List.mem_of_getElem? (i := 84) rfl)) rfl
  | 5, _ => exact tb_i (tc2 (List.mem_of_getElem? (i := 86) rfl)) rfl
  | n + 6, h => exact absurd h (by omega)
theorem inX7 : ∀ w ∈ wsX70, w ∈ lw_tbl := fun w h => tb_l (iuX7 w h)
theorem iuX8 : ∀ w ∈ wsX80, w ∈ TB := fun w h => by
  obtain ⟨k, hk, rfl⟩ := List.mem_map.mp h
  have hk := List.mem_range.mp hk
  match k, hk with
  | 0, _ => exact tb_i (tc4 (List.mem_of_getElem? (i := 142) rfl)) rfl
  | 1, _ => exact tb_i (tc4 (List.mem_of_getElem? (i := 144) rfl)) rfl
  | 2, _ => exact tb_i (tc4 (List.mem_of_getElem? (i := 146) rfl)) rfl
  | 3, _ => exact tb_i (tc4 (List.mem_of_getElem? (i := 148) rfl)) rfl
  | 4, _ => exact tb_i (tc4 (List.mem_of_getElem? (i := 150) rfl)) rfl
  | 5, _ => exact tb_i (tc4 (List.mem_of_getElem? (i := 152) rfl)) rfl
  | 6, _ => exact tb_i (tc4 (List.mem_of_getElem? (i := 154) rfl)) rfl
  | 7, _ => exact tb_i (tc4 (List.mem_of_getElem? (i := 156) rfl)) rfl
  | 8, _ => exact tb_i (tc4 (List.mem_of_getElem? (i := 158) rfl)) rfl
  | 9, _ => exact tb_i (tc4 (List.mem_of_getElem? (i := 160) rfl)) rfl
  | 10, _ => exact tb_i (tc4 (List.mem_of_getElem? (i := 162) rfl)) rfl
  | 11, _ => exact tb_i (tc4 (List.mem_of_getElem? (i := 164) rfl)) rfl
  | 12, _ => exact tb_i (tc4 (List.mem_of_getElem? (i := 166) rfl)) rfl
  | 13, _ => exact tb_i (tc4 (List.mem_of_getElem? (i := 168) rfl)) rfl
  | 14, _ => exact tb_i (tc4 (List.mem_of_getElem? (i := 170) rfl)) rfl
  | 15, _ => exact tb_i (tc4 (List.mem_of_getElem? (i := 172) rfl)) rfl
  | 16, _ => exact tb_i (tc4 (List.mem_of_getElem? (i := 174) rfl)) rfl
  | 17, _ => exact tb_i (tc4 (List.mem_of_getElem? (i := 176) rfl)) rfl
  | 18, _ => exact tb_i (tc4 (List.mem_of_getElem? (i := 178) rfl)) rfl
  | 19, _ => exact tb_i (tc4 (List.mem_of_getElem? (i := 180) rfl)) rfl
  | 20, _ => exact tb_i (tc4 (List.mem_of_getElem? (i := 182) rfl)) rfl
  | 21, _ => exact tb_i (tc4 (List.mem_of_getElem? (i := 184) rfl)) rfl
  | 22, _ => exact tb_i (tc4 (List.mem_of_getElem? (i := 186) rfl)) rfl
  | 23, _ => exact tb_i (tc4 (List.mem_of_getElem? (i := 188) rfl)) rfl
  | 24, _ => exact tb_i (tc4 (List.mem_of_getElem? (i := 190) rfl)) rfl
  | 25, _ => exact tb_i (tc4 (List.mem_of_getElem? (i := 192) rfl)) rfl
  | 26, _ => exact tb_i (tc4 (List.mem_of_getElem? (i := 194) rfl)) rfl
  | 27, _ => exact tb_i (tc4 (List.mem_of_getElem? (i := 196) rfl)) rfl
  | 28, _ => exact tb_i (tc4 (List.mem_of_getElem? (i := 198) rfl)) rfl
  | 29, _ => exact tb_i (tc4 (List.mem_of_getElem? (i := 200) rfl)) rfl
  | 30, _ => exact tb_i (tc4 (List.mem_of_getElem? (i := 202) rfl)) rfl
  | 31, _ => exact tb_i (tc4 (List.mem_of_getElem? (i := 204) rfl)) rfl
  | 32, _ => exact tb_i (tc4 (List.mem_of_getElem? (i := 206) rfl)) rfl
  | 33, _ => exact tb_i (tc4 (List.mem_of_getElem? (i := 208) rfl)) rfl
  | 34, _ => exact tb_i (tc4 (List.mem_of_getElem? (i := 210) rfl)) rfl
  | 35, _ => exact tb_i (tc4 (List.mem_of_getElem? (i := 212) rfl)) rfl
  | 36, _ => exact tb_i (tc4 (List.mem_of_getElem? (i := 214) rfl)) rfl
  | 37, _ => exact tb_i (tc4 (List.mem_of_getElem? (i := 216) rfl)) rfl
  | 38, _ => exact tb_i (tc4 (List.mem_of_getElem? (i := 218) rfl)) rfl
  | 39, _ => exact tb_i (tc4 (List.mem_of_getElem? (i := 220) rfl)) rfl
  | 40, _ => exact tb_i (tc4 (List.mem_of_getElem? (i := 222) rfl)) rfl
  | 41, _ => exact tb_i (tc4 (List.mem_of_getElem? (i := 224) rfl)) rfl
  | 42, _ => exact tb_i (tc4 (List.mem_of_getElem? (i := 226) rfl)) rfl
  | 43, _ => exact tb_i (tc4 (List.mem_of_getElem? (i := 228) rfl)) rfl
  | 44, _ => exact tb_i (tc4 (List.mem_of_getElem? (i := 230) rfl)) rfl
  | 45, _ => exact tb_i (tc4 (List.mem_of_getElem? (i := 232) rfl)) rfl
  | n + 46, h => exact absurd h (by omega)
theorem inX8 : ∀ w ∈ wsX80, w ∈ lw_tbl := fun w h => tb_l (iuX8 w h)
theorem wsL_law_x0 : ∀ w ∈ (vx_at0 RX7 130 "java/util/NoSuchElementException" ["java/lang/RuntimeException", "java/lang/Exception"]).filter goodWord, w ∈ lw_tbl := by decide +kernel
theorem tbx : ∀ w ∈ (vx_at0 RX7 130 "java/util/NoSuchElementException" ["java/lang/RuntimeException", "java/lang/Exception"]).filter goodWord, w ∈ TB := fun w h => tb_i (wsL_law_x0 w h) (List.mem_filter.mp h).2
abbrev wtJ7_fill_53178 : List Cond := .code yJ7_fill_53178 cJ7_fill_53178 4 none :: TB
abbrev wtX0_init : List Cond := .code yX0_init cX0_init 1 none :: TB
abbrev wtX0_everyone : List Cond := .code yX0_everyone cX0_everyone 1 (some .int) :: TB
abbrev wtX0_amountsTogether : List Cond := .code yX0_amountsTogether cX0_amountsTogether 3 (some .int) :: TB
abbrev wtX7_has : List Cond := .code yX7_has cX7_has 2 (some .boolean) :: TB
abbrev wtX0_limitsOn : List Cond := .code yX0_limitsOn cX0_limitsOn 4 (some .int) :: TB
abbrev wtX1_init : List Cond := .code yX1_init cX1_init 1 none :: TB
abbrev wtX7_within : List Cond := .code yX7_within cX7_within 3 (some .boolean) :: TB
abbrev wtX1_read : List Cond := .code yX1_read cX1_read 9 (some .boolean) :: TB
abbrev wtX4_paidFirst : List Cond := .code yX4_paidFirst cX4_paidFirst 2 (some .int) :: TB
abbrev wtX1_pay : List Cond := .code yX1_pay cX1_pay 4 none :: TB
abbrev wtX1_leastBelow : List Cond := .code yX1_leastBelow cX1_leastBelow 2 (some .int) :: TB
abbrev wtX1_leastAbove : List Cond := .code yX1_leastAbove cX1_leastAbove 2 (some .int) :: TB
abbrev wtX1_settleBetween : List Cond := .code yX1_settleBetween cX1_settleBetween 4 none :: TB
abbrev wtX1_recover : List Cond := .code yX1_recover cX1_recover 6 none :: TB
abbrev wtX2_init : List Cond := .code yX2_init cX2_init 1 none :: TB
abbrev wtX2_clear : List Cond := .code yX2_clear cX2_clear 1 none :: TB
abbrev wtX2_capsTogether : List Cond := .code yX2_capsTogether cX2_capsTogether 3 (some .int) :: TB
abbrev wtX2_mostLost : List Cond := .code yX2_mostLost cX2_mostLost 3 (some .int) :: TB
abbrev wtX2_divideByCaps : List Cond := .code yX2_divideByCaps cX2_divideByCaps 8 none :: TB
abbrev wtX2_height : List Cond := .code yX2_height cX2_height 10 (some .int) :: TB
abbrev wtX2_divideInSteps : List Cond := .code yX2_divideInSteps cX2_divideInSteps 5 none :: TB
abbrev wtX2_divide : List Cond := .code yX2_divide cX2_divide 3 none :: TB
abbrev wtX3_init : List Cond := .code yX3_init cX3_init 1 none :: TB
abbrev wtX3_put : List Cond := .code yX3_put cX3_put 4 none :: TB
abbrev wtX6_init : List Cond := .code yX6_init cX6_init 1 none :: TB
abbrev wtX4_init : List Cond := .code yX4_init cX4_init 1 none :: TB
abbrev wtX4_asBooked : List Cond := .code yX4_asBooked cX4_asBooked 1 none :: TB
abbrev wtX4_owed : List Cond := .code yX4_owed cX4_owed 8 (some .int) :: TB
abbrev wtX4_standAlone : List Cond := .code yX4_standAlone cX4_standAlone 5 (some .int) :: TB
abbrev wtX6_findRings : List Cond := .code yX6_findRings cX6_findRings 4 none :: TB
abbrev wtX6_trueYields : List Cond := .code yX6_trueYields cX6_trueYields 2 (some .int) :: TB
abbrev wtX6_findLevels : List Cond := .code yX6_findLevels cX6_findLevels 4 none :: TB
abbrev wtX6_weave : List Cond := .code yX6_weave cX6_weave 5 none :: TB
abbrev wtX4_shareOut : List Cond := .code yX4_shareOut cX4_shareOut 8 none :: TB
abbrev wtX4_useUp : List Cond := .code yX4_useUp cX4_useUp 3 none :: TB
abbrev wtX4_through : List Cond := .code yX4_through cX4_through 4 none :: TB
abbrev wtX4_usedUp : List Cond := .code yX4_usedUp cX4_usedUp 3 (some .int) :: TB
abbrev wtX4_burdenOn : List Cond := .code yX4_burdenOn cX4_burdenOn 3 (some .int) :: TB
abbrev wtX4_heightOf : List Cond := .code yX4_heightOf cX4_heightOf 3 (some .int) :: TB
abbrev wtX4_makeGood : List Cond := .code yX4_makeGood cX4_makeGood 4 (some .int) :: TB
abbrev wtJ6_bitCount_0f7a4 : List Cond := .code yJ6_bitCount_0f7a4 cJ6_bitCount_0f7a4 1 (some .int) :: TB
abbrev wtX4_isEnough : List Cond := .code yX4_isEnough cX4_isEnough 4 (some .boolean) :: TB
abbrev wtX4_fewestClaimed : List Cond := .code yX4_fewestClaimed cX4_fewestClaimed 4 (some .int) :: TB
abbrev wtX5_init : List Cond := .code yX5_init cX5_init 1 none :: TB
abbrev wtX5_measure : List Cond := .code yX5_measure cX5_measure 7 none :: TB
abbrev wtX5_leastNearer : List Cond := .code yX5_leastNearer cX5_leastNearer 4 (some .int) :: TB
abbrev wtX5_find : List Cond := .code yX5_find cX5_find 6 (some .int) :: TB
abbrev wtX6_countYields : List Cond := .code yX6_countYields cX6_countYields 3 (some .int) :: TB
abbrev wtX6_countTrueYields : List Cond := .code yX6_countTrueYields cX6_countTrueYields 3 (some .int) :: TB
abbrev wtX6_isLeastOfRing : List Cond := .code yX6_isLeastOfRing cX6_isLeastOfRing 2 (some .boolean) :: TB
abbrev wtX6_countRings : List Cond := .code yX6_countRings cX6_countRings 3 (some .int) :: TB
abbrev wtX6_ringAt : List Cond := .code yX6_ringAt cX6_ringAt 4 (some .int) :: TB
abbrev wtX6_isRinglessWith : List Cond := .code yX6_isRinglessWith cX6_isRinglessWith 5 (some .boolean) :: TB
abbrev wtX6_fewestPlain : List Cond := .code yX6_fewestPlain cX6_fewestPlain 4 (some .int) :: TB
abbrev wtX7_init : List Cond := .code yX7_init cX7_init 1 none :: TB
abbrev wtX7_policy : List Cond := .code yX7_policy cX7_policy 7 (some .int) :: TB
abbrev wtX7_isPolicy : List Cond := .code yX7_isPolicy cX7_isPolicy 2 (some .boolean) :: TB
abbrev wtX7_isKind : List Cond := .code yX7_isKind cX7_isKind 1 (some .boolean) :: TB
abbrev wtX7_clause : List Cond := .code yX7_clause cX7_clause 4 (some .boolean) :: TB
abbrev wtX7_changed : List Cond := .code yX7_changed cX7_changed 3 (some .boolean) :: TB
abbrev wtX7_limit : List Cond := .code yX7_limit cX7_limit 3 (some .boolean) :: TB
abbrev wtX7_isItem : List Cond := .code yX7_isItem cX7_isItem 1 (some .boolean) :: TB
abbrev wtX7_sub : List Cond := .code yX7_sub cX7_sub 4 (some .boolean) :: TB
abbrev wtX7_value : List Cond := .code yX7_value cX7_value 4 (some .boolean) :: TB
abbrev wtX7_loss : List Cond := .code yX7_loss cX7_loss 4 (some .int) :: TB
abbrev wtX7_revoke : List Cond := .code yX7_revoke cX7_revoke 1 (some .int) :: TB
abbrev wtX7_rule : List Cond := .code yX7_rule cX7_rule 1 (some .int) :: TB
abbrev wtX7_settleAll : List Cond := .code yX7_settleAll cX7_settleAll 1 none :: TB
abbrev wtX7_count : List Cond := .code yX7_count cX7_count 2 (some .int) :: TB
abbrev wtX7_of : List Cond := .code yX7_of cX7_of 3 (some .int) :: TB
abbrev wtX7_isLoss : List Cond := .code yX7_isLoss cX7_isLoss 2 (some .boolean) :: TB
abbrev wtX7_settle : List Cond := .code yX7_settle cX7_settle 2 none :: TB
abbrev wtX7_settled : List Cond := .code yX7_settled cX7_settled 4 (some .int) :: TB
abbrev wtX7_share : List Cond := .code yX7_share cX7_share 5 (some .int) :: TB
abbrev wtX7_bitsOfFloat : List Cond := .code yX7_bitsOfFloat cX7_bitsOfFloat 4 (some .int) :: TB
abbrev wtX7_part : List Cond := .code yX7_part cX7_part 3 (some .int) :: TB
abbrev wtX7_bitsOfDouble : List Cond := .code yX7_bitsOfDouble cX7_bitsOfDouble 7 (some .long) :: TB
abbrev wtX7_strain : List Cond := .code yX7_strain cX7_strain 3 (some .long) :: TB
abbrev wtX7_isLevel : List Cond := .code yX7_isLevel cX7_isLevel 2 (some .boolean) :: TB
abbrev wtX7_step : List Cond := .code yX7_step cX7_step 3 (some .int) :: TB
abbrev wtX7_level : List Cond := .code yX7_level cX7_level 3 (some .int) :: TB
abbrev wtX7_ring : List Cond := .code yX7_ring cX7_ring 3 (some .int) :: TB
abbrev wtX7_way : List Cond := .code yX7_way cX7_way 6 (some .int) :: TB
abbrev wtX7_isPolicyOrNone : List Cond := .code yX7_isPolicyOrNone cX7_isPolicyOrNone 2 (some .boolean) :: TB
abbrev wtX7_claimed : List Cond := .code yX7_claimed cX7_claimed 5 (some .int) :: TB
abbrev wtX7_recovery : List Cond := .code yX7_recovery cX7_recovery 6 (some .int) :: TB
abbrev wtX7_isSet : List Cond := .code yX7_isSet cX7_isSet 2 (some .boolean) :: TB
abbrev wtX7_broke : List Cond := .code yX7_broke cX7_broke 5 (some .int) :: TB
abbrev wtX7_totalOfSet : List Cond := .code yX7_totalOfSet cX7_totalOfSet 3 (some .int) :: TB
abbrev wtX7_without : List Cond := .code yX7_without cX7_without 3 (some .int) :: TB
abbrev wtX7_other : List Cond := .code yX7_other cX7_other 3 (some .int) :: TB
abbrev wtX7_set : List Cond := .code yX7_set cX7_set 3 (some .int) :: TB
abbrev wtX7_shapley : List Cond := .code yX7_shapley cX7_shapley 12 (some .long) :: TB
abbrev wtX7_returned : List Cond := .code yX7_returned cX7_returned 7 (some .int) :: TB
abbrev wtX7_ringless : List Cond := .code yX7_ringless cX7_ringless 4 (some .int) :: TB
abbrev wtX7_fewest : List Cond := .code yX7_fewest cX7_fewest 4 (some .int) :: TB
abbrev wtX7_moved : List Cond := .code yX7_moved cX7_moved 6 (some .int) :: TB
abbrev wtX7_isPlace : List Cond := .code yX7_isPlace cX7_isPlace 2 (some .boolean) :: TB
abbrev wtX7_file : List Cond := .code yX7_file cX7_file 4 (some .int) :: TB
abbrev wtX7_filed : List Cond := .code yX7_filed cX7_filed 5 (some .int) :: TB
abbrev wtX8_init : List Cond := .code yX8_init cX8_init 1 none :: TB
abbrev wtX8_in : List Cond := .code yX8_in cX8_in 6 (some .boolean) :: TB
abbrev wtX8_isOn : List Cond := .code yX8_isOn cX8_isOn 2 (some .boolean) :: TB
abbrev wtX8_isPolicy : List Cond := .code yX8_isPolicy cX8_isPolicy 2 (some .boolean) :: TB
abbrev wtX8_isLoss : List Cond := .code yX8_isLoss cX8_isLoss 2 (some .boolean) :: TB
abbrev wtX8_isItem : List Cond := .code yX8_isItem cX8_isItem 1 (some .boolean) :: TB
abbrev wtX8_all : List Cond := .code yX8_all cX8_all 1 (some .int) :: TB
abbrev wtX8_bits : List Cond := .code yX8_bits cX8_bits 3 (some .int) :: TB
abbrev wtX8_policy : List Cond := .code yX8_policy cX8_policy 7 (some .int) :: TB
abbrev wtX8_clause : List Cond := .code yX8_clause cX8_clause 4 (some .boolean) :: TB
abbrev wtX8_limit : List Cond := .code yX8_limit cX8_limit 3 (some .boolean) :: TB
abbrev wtX8_sub : List Cond := .code yX8_sub cX8_sub 4 (some .boolean) :: TB
abbrev wtX8_value : List Cond := .code yX8_value cX8_value 4 (some .boolean) :: TB
abbrev wtX8_loss : List Cond := .code yX8_loss cX8_loss 3 (some .int) :: TB
abbrev wtX8_revoke : List Cond := .code yX8_revoke cX8_revoke 1 (some .int) :: TB
abbrev wtX8_rule : List Cond := .code yX8_rule cX8_rule 1 (some .int) :: TB
abbrev wtX8_least : List Cond := .code yX8_least cX8_least 2 (some .int) :: TB
abbrev wtX8_owes : List Cond := .code yX8_owes cX8_owes 6 (some .int) :: TB
abbrev wtX8_yieldsOf : List Cond := .code yX8_yieldsOf cX8_yieldsOf 2 (some .int) :: TB
abbrev wtX8_closes : List Cond := .code yX8_closes cX8_closes 3 none :: TB
abbrev wtX8_laysLevels : List Cond := .code yX8_laysLevels cX8_laysLevels 5 none :: TB
abbrev wtX8_capSum : List Cond := .code yX8_capSum cX8_capSum 4 (some .long) :: TB
abbrev wtX8_byHeight : List Cond := .code yX8_byHeight cX8_byHeight 5 (some .long) :: TB
abbrev wtX8_heightFor : List Cond := .code yX8_heightFor cX8_heightFor 5 (some .int) :: TB
abbrev wtX8_bySteps : List Cond := .code yX8_bySteps cX8_bySteps 6 none :: TB
abbrev wtX8_byCaps : List Cond := .code yX8_byCaps cX8_byCaps 7 none :: TB
abbrev wtX8_shares : List Cond := .code yX8_shares cX8_shares 6 (some .int) :: TB
abbrev wtX8_settlesLevel : List Cond := .code yX8_settlesLevel cX8_settlesLevel 6 none :: TB
abbrev wtX8_settles : List Cond := .code yX8_settles cX8_settles 3 none :: TB
abbrev wtX8_settlesTo : List Cond := .code yX8_settlesTo cX8_settlesTo 4 none :: TB
abbrev wtX8_allTotals : List Cond := .code yX8_allTotals cX8_allTotals 3 (some .int) :: TB
abbrev wtX8_amounts : List Cond := .code yX8_amounts cX8_amounts 3 (some .int) :: TB
abbrev wtX8_used : List Cond := .code yX8_used cX8_used 3 (some .int) :: TB
abbrev wtX8_count : List Cond := .code yX8_count cX8_count 2 (some .int) :: TB
abbrev wtX8_lastLoss : List Cond := .code yX8_lastLoss cX8_lastLoss 3 (some .int) :: TB
abbrev wtX8_of : List Cond := .code yX8_of cX8_of 3 (some .int) :: TB
abbrev wtX8_isLead : List Cond := .code yX8_isLead cX8_isLead 2 (some .boolean) :: TB
abbrev wtX8_rings : List Cond := .code yX8_rings cX8_rings 3 (some .int) :: TB
abbrev wtX8_yieldMany : List Cond := .code yX8_yieldMany cX8_yieldMany 4 (some .int) :: TB
abbrev wtX8_settled : List Cond := .code yX8_settled cX8_settled 3 (some .int) :: TB
abbrev wtX8_share : List Cond := .code yX8_share cX8_share 4 (some .int) :: TB
abbrev wtX8_isBoth : List Cond := .code yX8_isBoth cX8_isBoth 3 (some .boolean) :: TB
abbrev wtJxf58ca_isNaN_12338 : List Cond := .code yJxf58ca_isNaN_12338 cJxf58ca_isNaN_12338 1 (some .boolean) :: TB
abbrev wtJxf58ca_floatToIntBits_5c35a : List Cond := .code yJxf58ca_floatToIntBits_5c35a cJxf58ca_floatToIntBits_5c35a 1 (some .int) :: TB
abbrev wtX8_part : List Cond := .code yX8_part cX8_part 3 (some .int) :: TB
abbrev wtJxe99ae_isNaN_b9ae7 : List Cond := .code yJxe99ae_isNaN_b9ae7 cJxe99ae_isNaN_b9ae7 2 (some .boolean) :: TB
abbrev wtJxe99ae_doubleToLongBits_ccdee : List Cond := .code yJxe99ae_doubleToLongBits_ccdee cJxe99ae_doubleToLongBits_ccdee 2 (some .long) :: TB
abbrev wtX8_strain : List Cond := .code yX8_strain cX8_strain 3 (some .long) :: TB
abbrev wtX8_step : List Cond := .code yX8_step cX8_step 3 (some .int) :: TB
abbrev wtX8_level : List Cond := .code yX8_level cX8_level 5 (some .int) :: TB
abbrev wtX8_ring : List Cond := .code yX8_ring cX8_ring 5 (some .int) :: TB
abbrev wtX8_measures : List Cond := .code yX8_measures cX8_measures 5 none :: TB
abbrev wtX8_way : List Cond := .code yX8_way cX8_way 8 (some .int) :: TB
abbrev wtX8_claims : List Cond := .code yX8_claims cX8_claims 8 (some .boolean) :: TB
abbrev wtX8_claimed : List Cond := .code yX8_claimed cX8_claimed 5 (some .int) :: TB
abbrev wtX8_firstBelow : List Cond := .code yX8_firstBelow cX8_firstBelow 2 (some .int) :: TB
abbrev wtX8_recovers : List Cond := .code yX8_recovers cX8_recovers 4 none :: TB
abbrev wtX8_recovery : List Cond := .code yX8_recovery cX8_recovery 6 (some .int) :: TB
abbrev wtX8_broke : List Cond := .code yX8_broke cX8_broke 6 (some .int) :: TB
abbrev wtX8_without : List Cond := .code yX8_without cX8_without 3 (some .int) :: TB
abbrev wtX8_other : List Cond := .code yX8_other cX8_other 3 (some .int) :: TB
abbrev wtX8_totalOf : List Cond := .code yX8_totalOf cX8_totalOf 3 (some .int) :: TB
abbrev wtX8_set : List Cond := .code yX8_set cX8_set 3 (some .int) :: TB
abbrev wtX8_orders : List Cond := .code yX8_orders cX8_orders 4 (some .long) :: TB
abbrev wtX8_shapley : List Cond := .code yX8_shapley cX8_shapley 7 (some .long) :: TB
abbrev wtX8_limitsOf : List Cond := .code yX8_limitsOf cX8_limitsOf 5 (some .long) :: TB
abbrev wtX8_returned : List Cond := .code yX8_returned cX8_returned 7 (some .int) :: TB
abbrev wtX8_hasRing : List Cond := .code yX8_hasRing cX8_hasRing 4 (some .boolean) :: TB
abbrev wtX8_ringless : List Cond := .code yX8_ringless cX8_ringless 5 (some .int) :: TB
abbrev wtX8_fewest : List Cond := .code yX8_fewest cX8_fewest 8 (some .int) :: TB
abbrev wtX8_moved : List Cond := .code yX8_moved cX8_moved 7 (some .int) :: TB
abbrev wtX8_isPlace : List Cond := .code yX8_isPlace cX8_isPlace 2 (some .boolean) :: TB
abbrev wtX8_file : List Cond := .code yX8_file cX8_file 4 (some .int) :: TB
abbrev wtX8_filed : List Cond := .code yX8_filed cX8_filed 5 (some .int) :: TB
abbrev wtL_of : List Cond := .codeWith yL_of cL_of 5 (some .int) [(0, 10, 13, 13)] :: TB
abbrev wtL_share : List Cond := .codeWith yL_share cL_share 6 (some .int) [(0, 12, 15, 13)] :: TB
