/-- every word of the tables that a call hands on -/
def kALL : List Cond := k2_sels lw_privs ++ tables_1.filter goodWord
theorem kALL_good : ∀ w ∈ kALL, goodWord w = true := by
  intro w h
  rcases List.mem_append.mp h with h | h
  · obtain ⟨q, -, rfl⟩ := List.mem_map.mp h
    rfl
  · exact (List.mem_filter.mp h).2
theorem kALL_tbl : ∀ w ∈ kALL, w ∈ lw_tbl := fun w h => (List.mem_append.mp h).elim (fun h => List.mem_append_left _ h) (fun h => List.mem_append_right _ (List.mem_filter.mp h).1)
theorem kin {w : Cond} (h : w ∈ tables_1) (g : goodWord w = true) : w ∈ kALL := List.mem_append_right _ (List.mem_filter.mpr ⟨h, g⟩)
theorem kin1 {w : Cond} (i : Nat) (h : tables_1_1[i]? = some w) (g : goodWord w = true) : w ∈ kALL := kin (List.mem_append_left _ (List.mem_of_getElem? h)) g
theorem kin2 {w : Cond} (i : Nat) (h : tables_1_2[i]? = some w) (g : goodWord w = true) : w ∈ kALL := kin (List.mem_append_right _ (List.mem_of_getElem? h)) g
theorem kins {w : Cond} (i : Nat) (h : (k2_sels lw_privs)[i]? = some w) : w ∈ kALL := List.mem_append_left _ (List.mem_of_getElem? h)
theorem kGood {y : MethodName} {bytes : ByteArray} {nL : Nat} {ret : Option FieldType} (hc : Cond.code y bytes nL ret ∈ kALL) : GoodIn kALL (Cond.code y bytes nL ret :: kALL) := fun w h => by
  rcases List.mem_cons.mp h with rfl | h
  · exact ⟨hc, good_of_word (kALL_good _ hc)⟩
  · exact ⟨h, good_of_word (kALL_good _ h)⟩

theorem wi_L : Cond.initialized RL ∈ kALL := kin1 0 rfl rfl
theorem wi_X4 : Cond.initialized RX4 ∈ kALL := kin1 1 rfl rfl
theorem wi_X1 : Cond.initialized RX1 ∈ kALL := kin1 2 rfl rfl
theorem wi_X2 : Cond.initialized RX2 ∈ kALL := kin1 3 rfl rfl
theorem wi_J9 : Cond.initialized RJ9 ∈ kALL := kin1 4 rfl rfl
theorem wi_X0 : Cond.initialized RX0 ∈ kALL := kin1 5 rfl rfl
theorem wi_X3 : Cond.initialized RX3 ∈ kALL := kin1 6 rfl rfl
theorem wi_J10 : Cond.initialized RJ10 ∈ kALL := kin1 7 rfl rfl
theorem wl_L_13 : Cond.classLink RL 13 RX4 ∈ kALL := kin1 8 rfl rfl
theorem wn_X4 : Cond.instantiable RX4 6 ∈ kALL := kin1 9 rfl rfl
theorem wm_L_91 : Cond.methodLink RL 91 yX4_init ∈ kALL := kin1 10 rfl rfl
theorem wk_X4_init : Cond.instanceMethod yX4_init ∈ kALL := kin1 11 rfl rfl
theorem wc_X4_init : Cond.code yX4_init cX4_init 1 none ∈ kALL := kin1 12 rfl rfl
theorem wm_X4_3 : Cond.methodLink RX4 3 Lib.objectInit ∈ kALL := kin1 13 rfl rfl
theorem wk_obj : Cond.instanceMethod Lib.objectInit ∈ kALL := kin1 14 rfl rfl
theorem wc_obj : Cond.code Lib.objectInit ⟨#[0xb1]⟩ 1 none ∈ kALL := kin1 15 rfl rfl
theorem wl_X4_9 : Cond.classLink RX4 9 RX1 ∈ kALL := kin1 16 rfl rfl
theorem wn_X1 : Cond.instantiable RX1 9 ∈ kALL := kin1 17 rfl rfl
theorem wm_X4_11 : Cond.methodLink RX4 11 yX1_init ∈ kALL := kin1 18 rfl rfl
theorem wk_X1_init : Cond.instanceMethod yX1_init ∈ kALL := kin1 19 rfl rfl
theorem wc_X1_init : Cond.code yX1_init cX1_init 1 none ∈ kALL := kin1 20 rfl rfl
theorem wm_X1_3 : Cond.methodLink RX1 3 Lib.objectInit ∈ kALL := kin1 21 rfl rfl
theorem wl_X1_9 : Cond.classLink RX1 9 RX2 ∈ kALL := kin1 22 rfl rfl
theorem wn_X2 : Cond.instantiable RX2 4 ∈ kALL := kin1 23 rfl rfl
theorem wm_X1_11 : Cond.methodLink RX1 11 yX2_init ∈ kALL := kin1 24 rfl rfl
theorem wk_X2_init : Cond.instanceMethod yX2_init ∈ kALL := kin1 25 rfl rfl
theorem wc_X2_init : Cond.code yX2_init cX2_init 3 none ∈ kALL := kin1 26 rfl rfl
theorem wm_X2_3 : Cond.methodLink RX2 3 Lib.objectInit ∈ kALL := kin1 27 rfl rfl
theorem wm_X2_18 : Cond.methodLink RX2 18 Lib.Math.max.name ∈ kALL := kin1 28 rfl rfl
theorem wt_max : Cond.static Lib.Math.max.name ∈ kALL := kin1 29 rfl rfl
theorem wc_max : Cond.code Lib.Math.max.name Lib.Math.max.code 2 (some .int) ∈ kALL := kin1 30 rfl rfl
theorem wf_X2_24 : Cond.fieldLink RX2 24 RX2 "cells" "[I" ∈ kALL := kin1 31 rfl rfl
theorem wf_X2_9 : Cond.fieldLink RX2 9 RX2 "mostRows" "I" ∈ kALL := kin1 32 rfl rfl
theorem wf_X2_15 : Cond.fieldLink RX2 15 RX2 "columns" "I" ∈ kALL := kin1 33 rfl rfl
theorem wf_X2_28 : Cond.fieldLink RX2 28 RX2 "rows" "I" ∈ kALL := kin1 34 rfl rfl
theorem wa_int : Cond.arrayClass .int ∈ kALL := kin1 44 rfl rfl
theorem wf_X1_14 : Cond.fieldLink RX1 14 RX1 "machines" "LBallastClub$Table;" ∈ kALL := kin1 45 rfl rfl
theorem wf_X4_44 : Cond.fieldLink RX4 44 RX1 "machines" "LBallastClub$Table;" ∈ kALL := kin1 46 rfl rfl
theorem wf_X1_20 : Cond.fieldLink RX1 20 RX1 "members" "LBallastClub$Table;" ∈ kALL := kin1 47 rfl rfl
theorem wf_X4_62 : Cond.fieldLink RX4 62 RX1 "members" "LBallastClub$Table;" ∈ kALL := kin1 48 rfl rfl
theorem wf_X1_23 : Cond.fieldLink RX1 23 RX1 "bookings" "LBallastClub$Table;" ∈ kALL := kin1 49 rfl rfl
theorem wf_X4_92 : Cond.fieldLink RX4 92 RX1 "bookings" "LBallastClub$Table;" ∈ kALL := kin1 50 rfl rfl
theorem wf_X1_26 : Cond.fieldLink RX1 26 RX1 "moves" "LBallastClub$Table;" ∈ kALL := kin1 51 rfl rfl
theorem wf_X4_122 : Cond.fieldLink RX4 122 RX1 "moves" "LBallastClub$Table;" ∈ kALL := kin1 52 rfl rfl
theorem wf_X1_29 : Cond.fieldLink RX1 29 RX1 "winds" "[I" ∈ kALL := kin1 53 rfl rfl
theorem wf_X1_49 : Cond.fieldLink RX1 49 RX1 "present" "I" ∈ kALL := kin1 54 rfl rfl
theorem wf_X4_109 : Cond.fieldLink RX4 109 RX1 "present" "I" ∈ kALL := kin1 55 rfl rfl
theorem wf_X1_53 : Cond.fieldLink RX1 53 RX1 "movesDone" "I" ∈ kALL := kin1 56 rfl rfl
theorem wf_X4_204 : Cond.fieldLink RX4 204 RX1 "movesDone" "I" ∈ kALL := kin1 57 rfl rfl
theorem wf_X1_56 : Cond.fieldLink RX1 56 RX1 "movesFailed" "I" ∈ kALL := kin1 58 rfl rfl
theorem wf_X4_207 : Cond.fieldLink RX4 207 RX1 "movesFailed" "I" ∈ kALL := kin1 59 rfl rfl
theorem wf_X1_59 : Cond.fieldLink RX1 59 RX1 "standbysOfNobody" "I" ∈ kALL := kin1 60 rfl rfl
theorem wf_X4_213 : Cond.fieldLink RX4 213 RX1 "standbysOfNobody" "I" ∈ kALL := kin1 61 rfl rfl
theorem wl_X4_22 : Cond.classLink RX4 22 RX0 ∈ kALL := kin1 81 rfl rfl
theorem wn_X0 : Cond.instantiable RX0 3 ∈ kALL := kin1 82 rfl rfl
theorem wm_X4_24 : Cond.methodLink RX4 24 yX0_init ∈ kALL := kin1 83 rfl rfl
theorem wk_X0_init : Cond.instanceMethod yX0_init ∈ kALL := kin1 84 rfl rfl
theorem wc_X0_init : Cond.code yX0_init cX0_init 2 none ∈ kALL := kin1 85 rfl rfl
theorem wm_X0_3 : Cond.methodLink RX0 3 Lib.objectInit ∈ kALL := kin1 86 rfl rfl
theorem wl_X0_9 : Cond.classLink RX0 9 RX1 ∈ kALL := kin1 87 rfl rfl
theorem wm_X0_17 : Cond.methodLink RX0 17 yX1_init ∈ kALL := kin1 89 rfl rfl
theorem wf_X0_11 : Cond.fieldLink RX0 11 RX0 "states" "[LBallastClub$State;" ∈ kALL := kin1 90 rfl rfl
theorem wf_X0_22 : Cond.fieldLink RX0 22 RX0 "next" "I" ∈ kALL := kin1 91 rfl rfl
theorem wf_X0_18 : Cond.fieldLink RX0 18 RX0 "size" "I" ∈ kALL := kin1 92 rfl rfl
theorem wl_X4_29 : Cond.classLink RX4 29 RX3 ∈ kALL := kin1 100 rfl rfl
theorem wn_X3 : Cond.instantiable RX3 4 ∈ kALL := kin1 101 rfl rfl
theorem wm_X4_31 : Cond.methodLink RX4 31 yX3_init ∈ kALL := kin1 102 rfl rfl
theorem wk_X3_init : Cond.instanceMethod yX3_init ∈ kALL := kin1 103 rfl rfl
theorem wc_X3_init : Cond.code yX3_init cX3_init 1 none ∈ kALL := kin1 104 rfl rfl
theorem wm_X3_3 : Cond.methodLink RX3 3 Lib.objectInit ∈ kALL := kin1 105 rfl rfl
theorem wl_X3_15 : Cond.classLink RX3 15 RX2 ∈ kALL := kin1 106 rfl rfl
theorem wm_X3_17 : Cond.methodLink RX3 17 yX2_init ∈ kALL := kin1 107 rfl rfl
theorem wf_X3_9 : Cond.fieldLink RX3 9 RX3 "signs" "[C" ∈ kALL := kin1 108 rfl rfl
theorem wf_X3_24 : Cond.fieldLink RX3 24 RX3 "length" "I" ∈ kALL := kin1 109 rfl rfl
theorem wf_X3_20 : Cond.fieldLink RX3 20 RX3 "told" "LBallastClub$Table;" ∈ kALL := kin1 110 rfl rfl
theorem wa_char : Cond.arrayClass .char ∈ kALL := kin1 120 rfl rfl
theorem wf_X4_12 : Cond.fieldLink RX4 12 RX4 "now" "LBallastClub$State;" ∈ kALL := kin1 121 rfl rfl
theorem wf_X4_16 : Cond.fieldLink RX4 16 RX4 "snapshot" "LBallastClub$State;" ∈ kALL := kin1 122 rfl rfl
theorem wf_X4_19 : Cond.fieldLink RX4 19 RX4 "forecast" "LBallastClub$State;" ∈ kALL := kin1 123 rfl rfl
theorem wf_X4_25 : Cond.fieldLink RX4 25 RX4 "history" "LBallastClub$History;" ∈ kALL := kin1 124 rfl rfl
theorem wf_X4_32 : Cond.fieldLink RX4 32 RX4 "text" "LBallastClub$WindText;" ∈ kALL := kin1 125 rfl rfl
theorem wf_X4_36 : Cond.fieldLink RX4 36 RX4 "hasSnapshot" "Z" ∈ kALL := kin1 126 rfl rfl
theorem wm_L_96 : Cond.methodLink RL 96 yX4_addMachine ∈ kALL := kin1 140 rfl rfl
theorem wk_X4_addMachine : Cond.instanceMethod yX4_addMachine ∈ kALL := kin1 141 rfl rfl
theorem ws_X4_addMachine : Cond.selects RX4 yX4_addMachine yX4_addMachine ∈ kALL := kin1 142 rfl rfl
theorem wc_X4_addMachine : Cond.code yX4_addMachine cX4_addMachine 3 (some .int) ∈ kALL := kin1 143 rfl rfl
theorem wm_X4_40 : Cond.methodLink RX4 40 yX4_isWithin ∈ kALL := kin1 144 rfl rfl
theorem wt_X4_isWithin : Cond.static yX4_isWithin ∈ kALL := kin1 145 rfl rfl
theorem wc_X4_isWithin : Cond.code yX4_isWithin cX4_isWithin 3 (some .boolean) ∈ kALL := kin1 146 rfl rfl
theorem wm_X4_48 : Cond.methodLink RX4 48 yX2_isFull ∈ kALL := kin1 147 rfl rfl
theorem wk_X2_isFull : Cond.instanceMethod yX2_isFull ∈ kALL := kin1 148 rfl rfl
theorem ws_X2_isFull : Cond.selects RX2 yX2_isFull yX2_isFull ∈ kALL := kin1 149 rfl rfl
theorem wc_X2_isFull : Cond.code yX2_isFull cX2_isFull 1 (some .boolean) ∈ kALL := kin1 150 rfl rfl
theorem wm_X4_54 : Cond.methodLink RX4 54 yX0_push ∈ kALL := kin1 151 rfl rfl
theorem wk_X0_push : Cond.instanceMethod yX0_push ∈ kALL := kin1 152 rfl rfl
theorem ws_X0_push : Cond.selects RX0 yX0_push yX0_push ∈ kALL := kin1 153 rfl rfl
theorem wc_X0_push : Cond.code yX0_push cX0_push 3 none ∈ kALL := kin1 154 rfl rfl
theorem wm_X0_25 : Cond.methodLink RX0 25 yX0_stateAt ∈ kALL := kin1 155 rfl rfl
theorem wk_X0_stateAt : Cond.instanceMethod yX0_stateAt ∈ kALL := kin1 157 rfl rfl
theorem wc_X0_stateAt : Cond.code yX0_stateAt cX0_stateAt 2 (some (.object "BallastClub$State")) ∈ kALL := kin1 158 rfl rfl
theorem wm_X0_29 : Cond.methodLink RX0 29 yX1_copyFrom ∈ kALL := kin1 159 rfl rfl
theorem wk_X1_copyFrom : Cond.instanceMethod yX1_copyFrom ∈ kALL := kin1 160 rfl rfl
theorem ws_X1_copyFrom : Cond.selects RX1 yX1_copyFrom yX1_copyFrom ∈ kALL := kin1 161 rfl rfl
theorem wc_X1_copyFrom : Cond.code yX1_copyFrom cX1_copyFrom 2 none ∈ kALL := kin1 162 rfl rfl
theorem wm_X1_33 : Cond.methodLink RX1 33 yX2_copyFrom ∈ kALL := kin1 163 rfl rfl
theorem wk_X2_copyFrom : Cond.instanceMethod yX2_copyFrom ∈ kALL := kin1 164 rfl rfl
theorem ws_X2_copyFrom : Cond.selects RX2 yX2_copyFrom yX2_copyFrom ∈ kALL := kin1 165 rfl rfl
theorem wc_X2_copyFrom : Cond.code yX2_copyFrom cX2_copyFrom 2 none ∈ kALL := kin1 166 rfl rfl
theorem wm_X2_46 : Cond.methodLink RX2 46 Lib.Math.min.name ∈ kALL := kin1 167 rfl rfl
theorem wt_min : Cond.static Lib.Math.min.name ∈ kALL := kin1 168 rfl rfl
theorem wc_min : Cond.code Lib.Math.min.name Lib.Math.min.code 2 (some .int) ∈ kALL := kin1 169 rfl rfl
theorem wm_X2_49 : Cond.methodLink RX2 49 arraycopyName ∈ kALL := kin1 170 rfl rfl
theorem wt_acopy : Cond.static arraycopyName ∈ kALL := kin1 171 rfl rfl
theorem wx_acopy : Cond.native arraycopyName ∈ kALL := kin1 172 rfl rfl
theorem wm_X1_37 : Cond.methodLink RX1 37 Lib.Math.min.name ∈ kALL := kin1 173 rfl rfl
theorem wm_X1_43 : Cond.methodLink RX1 43 arraycopyName ∈ kALL := kin1 174 rfl rfl
theorem wm_X0_33 : Cond.methodLink RX0 33 Lib.Math.min.name ∈ kALL := kin1 175 rfl rfl
theorem wm_X4_58 : Cond.methodLink RX4 58 yX1_putMachine ∈ kALL := kin1 176 rfl rfl
theorem wk_X1_putMachine : Cond.instanceMethod yX1_putMachine ∈ kALL := kin1 177 rfl rfl
theorem ws_X1_putMachine : Cond.selects RX1 yX1_putMachine yX1_putMachine ∈ kALL := kin1 178 rfl rfl
theorem wc_X1_putMachine : Cond.code yX1_putMachine cX1_putMachine 4 (some .int) ∈ kALL := kin1 179 rfl rfl
theorem wm_X1_79 : Cond.methodLink RX1 79 yX2_addRow ∈ kALL := kin1 180 rfl rfl
theorem wk_X2_addRow : Cond.instanceMethod yX2_addRow ∈ kALL := kin1 181 rfl rfl
theorem ws_X2_addRow : Cond.selects RX2 yX2_addRow yX2_addRow ∈ kALL := kin1 182 rfl rfl
theorem wc_X2_addRow : Cond.code yX2_addRow cX2_addRow 3 (some .int) ∈ kALL := kin1 183 rfl rfl
theorem wm_X2_38 : Cond.methodLink RX2 38 yX2_isFull ∈ kALL := kin1 184 rfl rfl
theorem wm_X2_34 : Cond.methodLink RX2 34 yX2_set ∈ kALL := kin1 185 rfl rfl
theorem wk_X2_set : Cond.instanceMethod yX2_set ∈ kALL := kin1 186 rfl rfl
theorem ws_X2_set : Cond.selects RX2 yX2_set yX2_set ∈ kALL := kin1 187 rfl rfl
theorem wc_X2_set : Cond.code yX2_set cX2_set 5 none ∈ kALL := kin1 188 rfl rfl
theorem wm_X1_82 : Cond.methodLink RX1 82 yX2_set ∈ kALL := kin1 189 rfl rfl
theorem wm_L_73 : Cond.methodLink RL 73 yX4_addMember ∈ kALL := kin1 190 rfl rfl
theorem wk_X4_addMember : Cond.instanceMethod yX4_addMember ∈ kALL := kin1 191 rfl rfl
theorem ws_X4_addMember : Cond.selects RX4 yX4_addMember yX4_addMember ∈ kALL := kin1 192 rfl rfl
theorem wc_X4_addMember : Cond.code yX4_addMember cX4_addMember 1 (some .int) ∈ kALL := kin1 193 rfl rfl
theorem wm_X4_65 : Cond.methodLink RX4 65 yX2_addRow ∈ kALL := kin1 194 rfl rfl
theorem wm_L_76 : Cond.methodLink RL 76 yX4_setWind ∈ kALL := kin1 195 rfl rfl
theorem wk_X4_setWind : Cond.instanceMethod yX4_setWind ∈ kALL := kin1 196 rfl rfl
theorem ws_X4_setWind : Cond.selects RX4 yX4_setWind yX4_setWind ∈ kALL := kin1 197 rfl rfl
theorem wc_X4_setWind : Cond.code yX4_setWind cX4_setWind 4 (some .int) ∈ kALL := kin1 198 rfl rfl
theorem wm_X4_69 : Cond.methodLink RX4 69 yX1_isToCome ∈ kALL := kin1 199 rfl rfl
theorem wk_X1_isToCome : Cond.instanceMethod yX1_isToCome ∈ kALL := kin1 200 rfl rfl
theorem ws_X1_isToCome : Cond.selects RX1 yX1_isToCome yX1_isToCome ∈ kALL := kin1 201 rfl rfl
theorem wc_X1_isToCome : Cond.code yX1_isToCome cX1_isToCome 2 (some .boolean) ∈ kALL := kin1 202 rfl rfl
theorem wt_X4_isHalfDay : Cond.static yX4_isHalfDay ∈ kALL := kin1 204 rfl rfl
theorem wc_X4_isHalfDay : Cond.code yX4_isHalfDay cX4_isHalfDay 1 (some .boolean) ∈ kALL := kin1 205 rfl rfl
theorem wm_X4_73 : Cond.methodLink RX4 73 yX1_windAt ∈ kALL := kin1 206 rfl rfl
theorem wk_X1_windAt : Cond.instanceMethod yX1_windAt ∈ kALL := kin1 207 rfl rfl
theorem ws_X1_windAt : Cond.selects RX1 yX1_windAt yX1_windAt ∈ kALL := kin1 208 rfl rfl
theorem wc_X1_windAt : Cond.code yX1_windAt cX1_windAt 2 (some .int) ∈ kALL := kin1 209 rfl rfl
theorem wm_X4_77 : Cond.methodLink RX4 77 yX1_tellWind ∈ kALL := kin1 210 rfl rfl
theorem wk_X1_tellWind : Cond.instanceMethod yX1_tellWind ∈ kALL := kin1 211 rfl rfl
theorem ws_X1_tellWind : Cond.selects RX1 yX1_tellWind yX1_tellWind ∈ kALL := kin1 212 rfl rfl
theorem wc_X1_tellWind : Cond.code yX1_tellWind cX1_tellWind 3 none ∈ kALL := kin1 213 rfl rfl
theorem wm_L_55 : Cond.methodLink RL 55 yX4_pass ∈ kALL := kin1 214 rfl rfl
theorem wk_X4_pass : Cond.instanceMethod yX4_pass ∈ kALL := kin1 215 rfl rfl
theorem ws_X4_pass : Cond.selects RX4 yX4_pass yX4_pass ∈ kALL := kin1 216 rfl rfl
theorem wc_X4_pass : Cond.code yX4_pass cX4_pass 4 (some .int) ∈ kALL := kin1 217 rfl rfl
theorem wm_X4_136 : Cond.methodLink RX4 136 yX1_passHalfDay ∈ kALL := kin1 218 rfl rfl
theorem wk_X1_passHalfDay : Cond.instanceMethod yX1_passHalfDay ∈ kALL := kin1 219 rfl rfl
theorem ws_X1_passHalfDay : Cond.selects RX1 yX1_passHalfDay yX1_passHalfDay ∈ kALL := kin1 220 rfl rfl
theorem wc_X1_passHalfDay : Cond.code yX1_passHalfDay cX1_passHalfDay 3 (some .int) ∈ kALL := kin1 221 rfl rfl
theorem wm_X1_125 : Cond.methodLink RX1 125 yX1_closeMovesUpTo ∈ kALL := kin1 222 rfl rfl
theorem wk_X1_closeMovesUpTo : Cond.instanceMethod yX1_closeMovesUpTo ∈ kALL := kin1 223 rfl rfl
theorem ws_X1_closeMovesUpTo : Cond.selects RX1 yX1_closeMovesUpTo yX1_closeMovesUpTo ∈ kALL := kin1 224 rfl rfl
theorem wc_X1_closeMovesUpTo : Cond.code yX1_closeMovesUpTo cX1_closeMovesUpTo 4 none ∈ kALL := kin1 225 rfl rfl
theorem wm_X1_112 : Cond.methodLink RX1 112 yX1_nextMoveUpTo ∈ kALL := kin1 226 rfl rfl
theorem wk_X1_nextMoveUpTo : Cond.instanceMethod yX1_nextMoveUpTo ∈ kALL := kin1 227 rfl rfl
theorem ws_X1_nextMoveUpTo : Cond.selects RX1 yX1_nextMoveUpTo yX1_nextMoveUpTo ∈ kALL := kin1 228 rfl rfl
theorem wc_X1_nextMoveUpTo : Cond.code yX1_nextMoveUpTo cX1_nextMoveUpTo 5 (some .int) ∈ kALL := kin1 229 rfl rfl
theorem wm_X1_66 : Cond.methodLink RX1 66 yX2_size ∈ kALL := kin1 230 rfl rfl
theorem wk_X2_size : Cond.instanceMethod yX2_size ∈ kALL := kin1 231 rfl rfl
theorem ws_X2_size : Cond.selects RX2 yX2_size yX2_size ∈ kALL := kin1 232 rfl rfl
theorem wc_X2_size : Cond.code yX2_size cX2_size 1 (some .int) ∈ kALL := kin1 233 rfl rfl
theorem wm_X1_70 : Cond.methodLink RX1 70 yX2_get ∈ kALL := kin1 234 rfl rfl
theorem wk_X2_get : Cond.instanceMethod yX2_get ∈ kALL := kin1 235 rfl rfl
theorem ws_X2_get : Cond.selects RX2 yX2_get yX2_get ∈ kALL := kin1 236 rfl rfl
theorem wc_X2_get : Cond.code yX2_get cX2_get 4 (some .int) ∈ kALL := kin1 237 rfl rfl
theorem wm_X1_115 : Cond.methodLink RX1 115 yX1_closeMove ∈ kALL := kin1 238 rfl rfl
theorem wk_X1_closeMove : Cond.instanceMethod yX1_closeMove ∈ kALL := kin2 0 rfl rfl
theorem wc_X1_closeMove : Cond.code yX1_closeMove cX1_closeMove 6 none ∈ kALL := kin2 1 rfl rfl
theorem wm_X1_119 : Cond.methodLink RX1 119 yX2_removeRow ∈ kALL := kin2 2 rfl rfl
theorem wk_X2_removeRow : Cond.instanceMethod yX2_removeRow ∈ kALL := kin2 3 rfl rfl
theorem ws_X2_removeRow : Cond.selects RX2 yX2_removeRow yX2_removeRow ∈ kALL := kin2 4 rfl rfl
theorem wc_X2_removeRow : Cond.code yX2_removeRow cX2_removeRow 4 none ∈ kALL := kin2 5 rfl rfl
theorem wm_X2_42 : Cond.methodLink RX2 42 yX2_has ∈ kALL := kin2 6 rfl rfl
theorem wk_X2_has : Cond.instanceMethod yX2_has ∈ kALL := kin2 7 rfl rfl
theorem ws_X2_has : Cond.selects RX2 yX2_has yX2_has ∈ kALL := kin2 8 rfl rfl
theorem wc_X2_has : Cond.code yX2_has cX2_has 2 (some .boolean) ∈ kALL := kin2 9 rfl rfl
theorem wm_X2_31 : Cond.methodLink RX2 31 yX2_get ∈ kALL := kin2 10 rfl rfl
theorem wm_X1_122 : Cond.methodLink RX1 122 yX1_pay ∈ kALL := kin2 11 rfl rfl
theorem wk_X1_pay : Cond.instanceMethod yX1_pay ∈ kALL := kin2 12 rfl rfl
theorem ws_X1_pay : Cond.selects RX1 yX1_pay yX1_pay ∈ kALL := kin2 13 rfl rfl
theorem wc_X1_pay : Cond.code yX1_pay cX1_pay 3 none ∈ kALL := kin2 14 rfl rfl
theorem wm_X1_95 : Cond.methodLink RX1 95 yX2_increase ∈ kALL := kin2 15 rfl rfl
theorem wk_X2_increase : Cond.instanceMethod yX2_increase ∈ kALL := kin2 16 rfl rfl
theorem ws_X2_increase : Cond.selects RX2 yX2_increase yX2_increase ∈ kALL := kin2 17 rfl rfl
theorem wc_X2_increase : Cond.code yX2_increase cX2_increase 4 none ∈ kALL := kin2 18 rfl rfl
theorem wm_X1_128 : Cond.methodLink RX1 128 yX1_isBooked ∈ kALL := kin2 19 rfl rfl
theorem wk_X1_isBooked : Cond.instanceMethod yX1_isBooked ∈ kALL := kin2 20 rfl rfl
theorem ws_X1_isBooked : Cond.selects RX1 yX1_isBooked yX1_isBooked ∈ kALL := kin2 21 rfl rfl
theorem wc_X1_isBooked : Cond.code yX1_isBooked cX1_isBooked 2 (some .boolean) ∈ kALL := kin2 22 rfl rfl
theorem wm_X1_131 : Cond.methodLink RX1 131 yX1_mustStandBy ∈ kALL := kin2 23 rfl rfl
theorem wk_X1_mustStandBy : Cond.instanceMethod yX1_mustStandBy ∈ kALL := kin2 24 rfl rfl
theorem ws_X1_mustStandBy : Cond.selects RX1 yX1_mustStandBy yX1_mustStandBy ∈ kALL := kin2 25 rfl rfl
theorem wc_X1_mustStandBy : Cond.code yX1_mustStandBy cX1_mustStandBy 2 (some .boolean) ∈ kALL := kin2 26 rfl rfl
theorem wm_X1_105 : Cond.methodLink RX1 105 yX1_bearsLiftOf ∈ kALL := kin2 27 rfl rfl
theorem wk_X1_bearsLiftOf : Cond.instanceMethod yX1_bearsLiftOf ∈ kALL := kin2 28 rfl rfl
theorem ws_X1_bearsLiftOf : Cond.selects RX1 yX1_bearsLiftOf yX1_bearsLiftOf ∈ kALL := kin2 29 rfl rfl
theorem wc_X1_bearsLiftOf : Cond.code yX1_bearsLiftOf cX1_bearsLiftOf 3 (some .boolean) ∈ kALL := kin2 30 rfl rfl
theorem wm_X1_89 : Cond.methodLink RX1 89 yX1_borneBy ∈ kALL := kin2 31 rfl rfl
theorem wk_X1_borneBy : Cond.instanceMethod yX1_borneBy ∈ kALL := kin2 32 rfl rfl
theorem ws_X1_borneBy : Cond.selects RX1 yX1_borneBy yX1_borneBy ∈ kALL := kin2 33 rfl rfl
theorem wc_X1_borneBy : Cond.code yX1_borneBy cX1_borneBy 6 (some .int) ∈ kALL := kin2 34 rfl rfl
theorem wm_X1_86 : Cond.methodLink RX1 86 Lib.Math.max.name ∈ kALL := kin2 35 rfl rfl
theorem wm_X1_98 : Cond.methodLink RX1 98 yX1_windAt ∈ kALL := kin2 36 rfl rfl
theorem wm_X1_109 : Cond.methodLink RX1 109 yX1_limitOf ∈ kALL := kin2 37 rfl rfl
theorem wk_X1_limitOf : Cond.instanceMethod yX1_limitOf ∈ kALL := kin2 38 rfl rfl
theorem ws_X1_limitOf : Cond.selects RX1 yX1_limitOf yX1_limitOf ∈ kALL := kin2 39 rfl rfl
theorem wc_X1_limitOf : Cond.code yX1_limitOf cX1_limitOf 2 (some .int) ∈ kALL := kin2 40 rfl rfl
theorem wt_X4_limitFor : Cond.static yX4_limitFor ∈ kALL := kin2 42 rfl rfl
theorem wc_X4_limitFor : Cond.code yX4_limitFor cX4_limitFor 2 (some .int) ∈ kALL := kin2 43 rfl rfl
theorem wm_X4_216 : Cond.methodLink RX4 216 Lib.Math.max.name ∈ kALL := kin2 44 rfl rfl
theorem wm_X1_134 : Cond.methodLink RX1 134 yX1_standBy ∈ kALL := kin2 45 rfl rfl
theorem wk_X1_standBy : Cond.instanceMethod yX1_standBy ∈ kALL := kin2 47 rfl rfl
theorem wc_X1_standBy : Cond.code yX1_standBy cX1_standBy 3 none ∈ kALL := kin2 48 rfl rfl
theorem wm_X1_140 : Cond.methodLink RX1 140 yX1_causerOf ∈ kALL := kin2 49 rfl rfl
theorem wk_X1_causerOf : Cond.instanceMethod yX1_causerOf ∈ kALL := kin2 50 rfl rfl
theorem ws_X1_causerOf : Cond.selects RX1 yX1_causerOf yX1_causerOf ∈ kALL := kin2 51 rfl rfl
theorem wc_X1_causerOf : Cond.code yX1_causerOf cX1_causerOf 4 (some .int) ∈ kALL := kin2 52 rfl rfl
theorem wm_X1_143 : Cond.methodLink RX1 143 yX1_carryOver ∈ kALL := kin2 53 rfl rfl
theorem wk_X1_carryOver : Cond.instanceMethod yX1_carryOver ∈ kALL := kin2 55 rfl rfl
theorem wc_X1_carryOver : Cond.code yX1_carryOver cX1_carryOver 5 none ∈ kALL := kin2 56 rfl rfl
theorem wm_X1_92 : Cond.methodLink RX1 92 yX1_bookingFor ∈ kALL := kin2 57 rfl rfl
theorem wk_X1_bookingFor : Cond.instanceMethod yX1_bookingFor ∈ kALL := kin2 58 rfl rfl
theorem ws_X1_bookingFor : Cond.selects RX1 yX1_bookingFor yX1_bookingFor ∈ kALL := kin2 59 rfl rfl
theorem wc_X1_bookingFor : Cond.code yX1_bookingFor cX1_bookingFor 4 (some .int) ∈ kALL := kin2 60 rfl rfl
theorem wm_X1_146 : Cond.methodLink RX1 146 yX1_place ∈ kALL := kin2 61 rfl rfl
theorem wk_X1_place : Cond.instanceMethod yX1_place ∈ kALL := kin2 62 rfl rfl
theorem ws_X1_place : Cond.selects RX1 yX1_place yX1_place ∈ kALL := kin2 63 rfl rfl
theorem wc_X1_place : Cond.code yX1_place cX1_place 4 none ∈ kALL := kin2 64 rfl rfl
theorem wm_X1_137 : Cond.methodLink RX1 137 yX1_lift ∈ kALL := kin2 65 rfl rfl
theorem wk_X1_lift : Cond.instanceMethod yX1_lift ∈ kALL := kin2 67 rfl rfl
theorem wc_X1_lift : Cond.code yX1_lift cX1_lift 2 none ∈ kALL := kin2 68 rfl rfl
theorem wm_L_58 : Cond.methodLink RL 58 yX4_undo ∈ kALL := kin2 69 rfl rfl
theorem wk_X4_undo : Cond.instanceMethod yX4_undo ∈ kALL := kin2 70 rfl rfl
theorem ws_X4_undo : Cond.selects RX4 yX4_undo yX4_undo ∈ kALL := kin2 71 rfl rfl
theorem wc_X4_undo : Cond.code yX4_undo cX4_undo 1 (some .int) ∈ kALL := kin2 72 rfl rfl
theorem wm_X4_163 : Cond.methodLink RX4 163 yX0_size ∈ kALL := kin2 73 rfl rfl
theorem wk_X0_size : Cond.instanceMethod yX0_size ∈ kALL := kin2 74 rfl rfl
theorem ws_X0_size : Cond.selects RX0 yX0_size yX0_size ∈ kALL := kin2 75 rfl rfl
theorem wc_X0_size : Cond.code yX0_size cX0_size 1 (some .int) ∈ kALL := kin2 76 rfl rfl
theorem wm_X4_164 : Cond.methodLink RX4 164 yX0_popInto ∈ kALL := kin2 77 rfl rfl
theorem wk_X0_popInto : Cond.instanceMethod yX0_popInto ∈ kALL := kin2 78 rfl rfl
theorem ws_X0_popInto : Cond.selects RX0 yX0_popInto yX0_popInto ∈ kALL := kin2 79 rfl rfl
theorem wc_X0_popInto : Cond.code yX0_popInto cX0_popInto 4 none ∈ kALL := kin2 80 rfl rfl
theorem wm_L_113 : Cond.methodLink RL 113 yX4_keep ∈ kALL := kin2 81 rfl rfl
theorem wk_X4_keep : Cond.instanceMethod yX4_keep ∈ kALL := kin2 82 rfl rfl
theorem ws_X4_keep : Cond.selects RX4 yX4_keep yX4_keep ∈ kALL := kin2 83 rfl rfl
theorem wc_X4_keep : Cond.code yX4_keep cX4_keep 1 (some .int) ∈ kALL := kin2 84 rfl rfl
theorem wm_X4_167 : Cond.methodLink RX4 167 yX1_copyFrom ∈ kALL := kin2 85 rfl rfl
theorem wm_L_116 : Cond.methodLink RL 116 yX4_restore ∈ kALL := kin2 86 rfl rfl
theorem wk_X4_restore : Cond.instanceMethod yX4_restore ∈ kALL := kin2 87 rfl rfl
theorem ws_X4_restore : Cond.selects RX4 yX4_restore yX4_restore ∈ kALL := kin2 88 rfl rfl
theorem wc_X4_restore : Cond.code yX4_restore cX4_restore 1 (some .int) ∈ kALL := kin2 89 rfl rfl
theorem wm_L_18 : Cond.methodLink RL 18 yX4_machine ∈ kALL := kin2 90 rfl rfl
theorem wk_X4_machine : Cond.instanceMethod yX4_machine ∈ kALL := kin2 91 rfl rfl
theorem ws_X4_machine : Cond.selects RX4 yX4_machine yX4_machine ∈ kALL := kin2 92 rfl rfl
theorem wc_X4_machine : Cond.code yX4_machine cX4_machine 3 (some .int) ∈ kALL := kin2 93 rfl rfl
theorem wm_X4_81 : Cond.methodLink RX4 81 yX2_has ∈ kALL := kin2 94 rfl rfl
theorem wm_X4_106 : Cond.methodLink RX4 106 yX2_get ∈ kALL := kin2 95 rfl rfl
theorem wm_X4_182 : Cond.methodLink RX4 182 yX2_countBoth ∈ kALL := kin2 96 rfl rfl
theorem wk_X2_countBoth : Cond.instanceMethod yX2_countBoth ∈ kALL := kin2 97 rfl rfl
theorem ws_X2_countBoth : Cond.selects RX2 yX2_countBoth yX2_countBoth ∈ kALL := kin2 98 rfl rfl
theorem wc_X2_countBoth : Cond.code yX2_countBoth cX2_countBoth 7 (some .int) ∈ kALL := kin2 99 rfl rfl
theorem wm_X4_186 : Cond.methodLink RX4 186 yX2_countOf ∈ kALL := kin2 100 rfl rfl
theorem wk_X2_countOf : Cond.instanceMethod yX2_countOf ∈ kALL := kin2 101 rfl rfl
theorem ws_X2_countOf : Cond.selects RX2 yX2_countOf yX2_countOf ∈ kALL := kin2 102 rfl rfl
theorem wc_X2_countOf : Cond.code yX2_countOf cX2_countOf 5 (some .int) ∈ kALL := kin2 103 rfl rfl
theorem wm_L_22 : Cond.methodLink RL 22 yX4_member ∈ kALL := kin2 104 rfl rfl
theorem wk_X4_member : Cond.instanceMethod yX4_member ∈ kALL := kin2 105 rfl rfl
theorem ws_X4_member : Cond.selects RX4 yX4_member yX4_member ∈ kALL := kin2 106 rfl rfl
theorem wc_X4_member : Cond.code yX4_member cX4_member 3 (some .int) ∈ kALL := kin2 107 rfl rfl
theorem wm_L_25 : Cond.methodLink RL 25 yX4_booking ∈ kALL := kin2 108 rfl rfl
theorem wk_X4_booking : Cond.instanceMethod yX4_booking ∈ kALL := kin2 109 rfl rfl
theorem ws_X4_booking : Cond.selects RX4 yX4_booking yX4_booking ∈ kALL := kin2 110 rfl rfl
theorem wc_X4_booking : Cond.code yX4_booking cX4_booking 3 (some .int) ∈ kALL := kin2 111 rfl rfl
theorem wm_X4_189 : Cond.methodLink RX4 189 yX1_limitOf ∈ kALL := kin2 112 rfl rfl
theorem wm_L_28 : Cond.methodLink RL 28 yX4_move ∈ kALL := kin2 113 rfl rfl
theorem wk_X4_move : Cond.instanceMethod yX4_move ∈ kALL := kin2 114 rfl rfl
theorem ws_X4_move : Cond.selects RX4 yX4_move yX4_move ∈ kALL := kin2 115 rfl rfl
theorem wc_X4_move : Cond.code yX4_move cX4_move 3 (some .int) ∈ kALL := kin2 116 rfl rfl
theorem wm_L_37 : Cond.methodLink RL 37 yX4_bookedAt ∈ kALL := kin2 117 rfl rfl
theorem wk_X4_bookedAt : Cond.instanceMethod yX4_bookedAt ∈ kALL := kin2 118 rfl rfl
theorem ws_X4_bookedAt : Cond.selects RX4 yX4_bookedAt yX4_bookedAt ∈ kALL := kin2 119 rfl rfl
theorem wc_X4_bookedAt : Cond.code yX4_bookedAt cX4_bookedAt 3 (some .int) ∈ kALL := kin2 120 rfl rfl
theorem wm_X4_192 : Cond.methodLink RX4 192 yX4_isHalfDay ∈ kALL := kin2 121 rfl rfl
theorem wm_X4_195 : Cond.methodLink RX4 195 yX1_bookingFor ∈ kALL := kin2 122 rfl rfl
theorem wm_L_66 : Cond.methodLink RL 66 yX4_machineFor ∈ kALL := kin2 123 rfl rfl
theorem wk_X4_machineFor : Cond.instanceMethod yX4_machineFor ∈ kALL := kin2 124 rfl rfl
theorem ws_X4_machineFor : Cond.selects RX4 yX4_machineFor yX4_machineFor ∈ kALL := kin2 125 rfl rfl
theorem wc_X4_machineFor : Cond.code yX4_machineFor cX4_machineFor 5 (some .int) ∈ kALL := kin2 126 rfl rfl
theorem wm_X4_84 : Cond.methodLink RX4 84 yX4_isLift ∈ kALL := kin2 127 rfl rfl
theorem wt_X4_isLift : Cond.static yX4_isLift ∈ kALL := kin2 128 rfl rfl
theorem wc_X4_isLift : Cond.code yX4_isLift cX4_isLift 2 (some .boolean) ∈ kALL := kin2 129 rfl rfl
theorem wm_X4_170 : Cond.methodLink RX4 170 yX4_isRadius ∈ kALL := kin2 130 rfl rfl
theorem wt_X4_isRadius : Cond.static yX4_isRadius ∈ kALL := kin2 131 rfl rfl
theorem wc_X4_isRadius : Cond.code yX4_isRadius cX4_isRadius 1 (some .boolean) ∈ kALL := kin2 132 rfl rfl
theorem wm_X4_133 : Cond.methodLink RX4 133 yX2_size ∈ kALL := kin2 133 rfl rfl
theorem wm_X4_88 : Cond.methodLink RX4 88 yX1_canTake ∈ kALL := kin2 134 rfl rfl
theorem wk_X1_canTake : Cond.instanceMethod yX1_canTake ∈ kALL := kin2 135 rfl rfl
theorem ws_X1_canTake : Cond.selects RX1 yX1_canTake yX1_canTake ∈ kALL := kin2 136 rfl rfl
theorem wc_X1_canTake : Cond.code yX1_canTake cX1_canTake 5 (some .boolean) ∈ kALL := kin2 137 rfl rfl
theorem wm_L_52 : Cond.methodLink RL 52 yX4_fate ∈ kALL := kin2 138 rfl rfl
theorem wk_X4_fate : Cond.instanceMethod yX4_fate ∈ kALL := kin2 139 rfl rfl
theorem ws_X4_fate : Cond.selects RX4 yX4_fate yX4_fate ∈ kALL := kin2 140 rfl rfl
theorem wc_X4_fate : Cond.code yX4_fate cX4_fate 2 (some .int) ∈ kALL := kin2 141 rfl rfl
theorem wm_X4_103 : Cond.methodLink RX4 103 yX1_isBooked ∈ kALL := kin2 142 rfl rfl
theorem wm_X4_176 : Cond.methodLink RX4 176 yX1_closeMovesUpTo ∈ kALL := kin2 143 rfl rfl
theorem wm_X4_198 : Cond.methodLink RX4 198 yX1_mustStandBy ∈ kALL := kin2 144 rfl rfl
theorem wm_X4_201 : Cond.methodLink RX4 201 yX1_causerOf ∈ kALL := kin2 145 rfl rfl
theorem wm_L_12 : Cond.methodLink RL 12 yX4_count ∈ kALL := kin2 146 rfl rfl
theorem wk_X4_count : Cond.instanceMethod yX4_count ∈ kALL := kin2 147 rfl rfl
theorem ws_X4_count : Cond.selects RX4 yX4_count yX4_count ∈ kALL := kin2 148 rfl rfl
theorem wc_X4_count : Cond.code yX4_count cX4_count 2 (some .int) ∈ kALL := kin2 149 rfl rfl
theorem wm_X4_210 : Cond.methodLink RX4 210 yX2_sumOf ∈ kALL := kin2 150 rfl rfl
theorem wk_X2_sumOf : Cond.instanceMethod yX2_sumOf ∈ kALL := kin2 151 rfl rfl
theorem ws_X2_sumOf : Cond.selects RX2 yX2_sumOf yX2_sumOf ∈ kALL := kin2 152 rfl rfl
theorem wc_X2_sumOf : Cond.code yX2_sumOf cX2_sumOf 4 (some .int) ∈ kALL := kin2 153 rfl rfl
theorem wm_X4_143 : Cond.methodLink RX4 143 yX3_length ∈ kALL := kin2 154 rfl rfl
theorem wk_X3_length : Cond.instanceMethod yX3_length ∈ kALL := kin2 155 rfl rfl
theorem ws_X3_length : Cond.selects RX3 yX3_length yX3_length ∈ kALL := kin2 156 rfl rfl
theorem wc_X3_length : Cond.code yX3_length cX3_length 1 (some .int) ∈ kALL := kin2 157 rfl rfl
theorem wm_L_92 : Cond.methodLink RL 92 yL_cell ∈ kALL := kin2 158 rfl rfl
theorem wt_L_cell : Cond.static yL_cell ∈ kALL := kin2 159 rfl rfl
theorem wc_L_cell : Cond.code yL_cell method_2_code 2 (some .int) ∈ kALL := kin2 160 rfl rfl
theorem wm_L_49 : Cond.methodLink RL 49 yL_low ∈ kALL := kin2 161 rfl rfl
theorem wt_L_low : Cond.static yL_low ∈ kALL := kin2 162 rfl rfl
theorem wc_L_low : Cond.code yL_low method_3_code 2 (some .int) ∈ kALL := kin2 163 rfl rfl
theorem wm_L_43 : Cond.methodLink RL 43 yL_all ∈ kALL := kin2 165 rfl rfl
theorem wt_L_all : Cond.static yL_all ∈ kALL := kin2 166 rfl rfl
theorem wc_L_all : Cond.code yL_all method_4_code 4 (some .long) ∈ kALL := kin2 167 rfl rfl
theorem wm_L_31 : Cond.methodLink RL 31 yX4_wind ∈ kALL := kin2 170 rfl rfl
theorem wk_X4_wind : Cond.instanceMethod yX4_wind ∈ kALL := kin2 171 rfl rfl
theorem ws_X4_wind : Cond.selects RX4 yX4_wind yX4_wind ∈ kALL := kin2 172 rfl rfl
theorem wc_X4_wind : Cond.code yX4_wind cX4_wind 2 (some .int) ∈ kALL := kin2 173 rfl rfl
theorem wm_L_103 : Cond.methodLink RL 103 yL_isSound ∈ kALL := kin2 174 rfl rfl
theorem wt_L_isSound : Cond.static yL_isSound ∈ kALL := kin2 175 rfl rfl
theorem wc_L_isSound : Cond.code yL_isSound method_5_code 14 (some .boolean) ∈ kALL := kin2 176 rfl rfl
theorem wm_L_34 : Cond.methodLink RL 34 yX4_bears ∈ kALL := kin2 177 rfl rfl
theorem wk_X4_bears : Cond.instanceMethod yX4_bears ∈ kALL := kin2 178 rfl rfl
theorem ws_X4_bears : Cond.selects RX4 yX4_bears yX4_bears ∈ kALL := kin2 179 rfl rfl
theorem wc_X4_bears : Cond.code yX4_bears cX4_bears 3 (some .int) ∈ kALL := kin2 180 rfl rfl
theorem wm_X4_173 : Cond.methodLink RX4 173 yX1_borneBy ∈ kALL := kin2 181 rfl rfl
theorem wm_L_40 : Cond.methodLink RL 40 yX4_windLimit ∈ kALL := kin2 182 rfl rfl
theorem wk_X4_windLimit : Cond.instanceMethod yX4_windLimit ∈ kALL := kin2 183 rfl rfl
theorem ws_X4_windLimit : Cond.selects RX4 yX4_windLimit yX4_windLimit ∈ kALL := kin2 184 rfl rfl
theorem wc_X4_windLimit : Cond.code yX4_windLimit cX4_windLimit 3 (some .int) ∈ kALL := kin2 185 rfl rfl
theorem wm_X4_179 : Cond.methodLink RX4 179 yX4_limitFor ∈ kALL := kin2 186 rfl rfl
theorem wm_L_107 : Cond.methodLink RL 107 yL_isForetold ∈ kALL := kin2 187 rfl rfl
theorem wt_L_isForetold : Cond.static yL_isForetold ∈ kALL := kin2 188 rfl rfl
theorem wc_L_isForetold : Cond.code yL_isForetold method_6_code 9 (some .boolean) ∈ kALL := kin2 189 rfl rfl
theorem wm_L_62 : Cond.methodLink RL 62 yX4_willBear ∈ kALL := kin2 190 rfl rfl
theorem wk_X4_willBear : Cond.instanceMethod yX4_willBear ∈ kALL := kin2 191 rfl rfl
theorem ws_X4_willBear : Cond.selects RX4 yX4_willBear yX4_willBear ∈ kALL := kin2 192 rfl rfl
theorem wc_X4_willBear : Cond.code yX4_willBear cX4_willBear 4 (some .int) ∈ kALL := kin2 193 rfl rfl
theorem wm_L_110 : Cond.methodLink RL 110 yL_isFound ∈ kALL := kin2 194 rfl rfl
theorem wt_L_isFound : Cond.static yL_isFound ∈ kALL := kin2 195 rfl rfl
theorem wc_L_isFound : Cond.code yL_isFound method_7_code 12 (some .boolean) ∈ kALL := kin2 196 rfl rfl
theorem wm_L_69 : Cond.methodLink RL 69 yX4_book ∈ kALL := kin2 197 rfl rfl
theorem wk_X4_book : Cond.instanceMethod yX4_book ∈ kALL := kin2 198 rfl rfl
theorem ws_X4_book : Cond.selects RX4 yX4_book yX4_book ∈ kALL := kin2 199 rfl rfl
theorem wc_X4_book : Cond.code yX4_book cX4_book 7 (some .int) ∈ kALL := kin2 200 rfl rfl
theorem wm_X4_95 : Cond.methodLink RX4 95 yX1_putBooking ∈ kALL := kin2 201 rfl rfl
theorem wk_X1_putBooking : Cond.instanceMethod yX1_putBooking ∈ kALL := kin2 202 rfl rfl
theorem ws_X1_putBooking : Cond.selects RX1 yX1_putBooking yX1_putBooking ∈ kALL := kin2 203 rfl rfl
theorem wc_X1_putBooking : Cond.code yX1_putBooking cX1_putBooking 5 (some .int) ∈ kALL := kin2 204 rfl rfl
theorem wm_X4_99 : Cond.methodLink RX4 99 yX1_place ∈ kALL := kin2 205 rfl rfl
theorem wm_L_99 : Cond.methodLink RL 99 yL_acts ∈ kALL := kin2 206 rfl rfl
theorem wt_L_acts : Cond.static yL_acts ∈ kALL := kin2 207 rfl rfl
theorem wc_L_acts : Cond.code yL_acts method_8_code 6 (some .int) ∈ kALL := kin2 208 rfl rfl
theorem wm_L_79 : Cond.methodLink RL 79 yX4_cancel ∈ kALL := kin2 209 rfl rfl
theorem wk_X4_cancel : Cond.instanceMethod yX4_cancel ∈ kALL := kin2 210 rfl rfl
theorem ws_X4_cancel : Cond.selects RX4 yX4_cancel yX4_cancel ∈ kALL := kin2 211 rfl rfl
theorem wc_X4_cancel : Cond.code yX4_cancel cX4_cancel 3 (some .int) ∈ kALL := kin2 212 rfl rfl
theorem wm_X4_113 : Cond.methodLink RX4 113 yX1_pay ∈ kALL := kin2 213 rfl rfl
theorem wm_X4_116 : Cond.methodLink RX4 116 yX2_set ∈ kALL := kin2 214 rfl rfl
theorem wm_L_82 : Cond.methodLink RL 82 yX4_swap ∈ kALL := kin2 215 rfl rfl
theorem wk_X4_swap : Cond.instanceMethod yX4_swap ∈ kALL := kin2 216 rfl rfl
theorem ws_X4_swap : Cond.selects RX4 yX4_swap yX4_swap ∈ kALL := kin2 217 rfl rfl
theorem wc_X4_swap : Cond.code yX4_swap cX4_swap 7 (some .int) ∈ kALL := kin2 218 rfl rfl
theorem wm_X4_119 : Cond.methodLink RX4 119 yX1_bearsLiftOf ∈ kALL := kin2 219 rfl rfl
theorem wm_L_85 : Cond.methodLink RL 85 yX4_order ∈ kALL := kin2 220 rfl rfl
theorem wk_X4_order : Cond.instanceMethod yX4_order ∈ kALL := kin2 221 rfl rfl
theorem ws_X4_order : Cond.selects RX4 yX4_order yX4_order ∈ kALL := kin2 222 rfl rfl
theorem wc_X4_order : Cond.code yX4_order cX4_order 6 (some .int) ∈ kALL := kin2 223 rfl rfl
theorem wm_X4_125 : Cond.methodLink RX4 125 yX1_putMove ∈ kALL := kin2 224 rfl rfl
theorem wk_X1_putMove : Cond.instanceMethod yX1_putMove ∈ kALL := kin2 225 rfl rfl
theorem ws_X1_putMove : Cond.selects RX1 yX1_putMove yX1_putMove ∈ kALL := kin2 226 rfl rfl
theorem wc_X1_putMove : Cond.code yX1_putMove cX1_putMove 7 (some .int) ∈ kALL := kin2 227 rfl rfl
theorem wm_L_88 : Cond.methodLink RL 88 yX4_takeBack ∈ kALL := kin2 228 rfl rfl
theorem wk_X4_takeBack : Cond.instanceMethod yX4_takeBack ∈ kALL := kin2 229 rfl rfl
theorem ws_X4_takeBack : Cond.selects RX4 yX4_takeBack yX4_takeBack ∈ kALL := kin2 230 rfl rfl
theorem wc_X4_takeBack : Cond.code yX4_takeBack cX4_takeBack 2 (some .int) ∈ kALL := kin2 231 rfl rfl
theorem wm_X4_129 : Cond.methodLink RX4 129 yX2_removeRow ∈ kALL := kin2 232 rfl rfl
theorem ws_X0_stateAt : Cond.selects RX0 yX0_stateAt yX0_stateAt ∈ kALL := kins 0 rfl
theorem ws_X1_closeMove : Cond.selects RX1 yX1_closeMove yX1_closeMove ∈ kALL := kins 1 rfl
theorem ws_X1_standBy : Cond.selects RX1 yX1_standBy yX1_standBy ∈ kALL := kins 2 rfl
theorem ws_X1_carryOver : Cond.selects RX1 yX1_carryOver yX1_carryOver ∈ kALL := kins 3 rfl
theorem ws_X1_lift : Cond.selects RX1 yX1_lift yX1_lift ∈ kALL := kins 4 rfl
theorem wz_X2 : ∀ w ∈ wsX20, w ∈ kALL := fun w h => by
  have e : [35, 37, 39, 41].filterMap (fun i => tables_1_1[i]?) = wsX20 := rfl
  have g : wsX20.all goodWord = true := rfl
  rw [← e] at h
  obtain ⟨i, -, hi⟩ := List.mem_filterMap.mp h
  rw [e] at h
  exact kin1 i hi (List.all_eq_true.mp g w h)
theorem wz_X1 : ∀ w ∈ wsX10, w ∈ kALL := fun w h => by
  have e : [62, 64, 66, 68, 70, 72, 74, 76, 78].filterMap (fun i => tables_1_1[i]?) = wsX10 := rfl
  have g : wsX10.all goodWord = true := rfl
  rw [← e] at h
  obtain ⟨i, -, hi⟩ := List.mem_filterMap.mp h
  rw [e] at h
  exact kin1 i hi (List.all_eq_true.mp g w h)
theorem wz_X0 : ∀ w ∈ wsX00, w ∈ kALL := fun w h => by
  have e : [93, 95, 97].filterMap (fun i => tables_1_1[i]?) = wsX00 := rfl
  have g : wsX00.all goodWord = true := rfl
  rw [← e] at h
  obtain ⟨i, -, hi⟩ := List.mem_filterMap.mp h
  rw [e] at h
  exact kin1 i hi (List.all_eq_true.mp g w h)
theorem wz_X3 : ∀ w ∈ wsX30, w ∈ kALL := fun w h => by
  have e : [111, 113, 115, 117].filterMap (fun i => tables_1_1[i]?) = wsX30 := rfl
  have g : wsX30.all goodWord = true := rfl
  rw [← e] at h
  obtain ⟨i, -, hi⟩ := List.mem_filterMap.mp h
  rw [e] at h
  exact kin1 i hi (List.all_eq_true.mp g w h)
theorem wz_X4 : ∀ w ∈ wsX40, w ∈ kALL := fun w h => by
  have e : [127, 129, 131, 133, 135, 137].filterMap (fun i => tables_1_1[i]?) = wsX40 := rfl
  have g : wsX40.all goodWord = true := rfl
  rw [← e] at h
  obtain ⟨i, -, hi⟩ := List.mem_filterMap.mp h
  rw [e] at h
  exact kin1 i hi (List.all_eq_true.mp g w h)
