/-! constructors: by program (wip/p49/gen/mk30.py) -/
theorem kd1_ro {A : kdA} {c0 cc s0 cs : Nat} (hc : c0 + cc = (kdAR A).cells) (hs : s0 + cs = (kdAR A).slots) : kdRO A c0 s0 := by
  obtain ⟨p, e, R, s, m, args, below, meth, c⟩ := A
  have hc : c0 + cc = R.cells := hc
  have hs : s0 + cs = R.slots := hs
  exact ⟨by omega, by omega⟩
theorem r1_icmp_ge {E : kdE} {A : kdA} {G : kdS} {σ : kdM} {nL h c0 s0 cc cs pc : Nat} {Q : State → Prop} {L : List (Nat × Value)} {st : List Value} {bc : ByteArray} {own : String} {ret : Option FieldType} {x y : Int32} {off : Int} {tgt : Nat} {β : Type} {f1 f2 : kd1 → Option β} {w : β} (hX : kdX E A bc nL own ret h) (hd : decode bc pc = .ok (.if_icmp .ge off, 3)) (ht : (pc : Int) + off = (tgt : Int)) (hh : cnd1 (y ≤ x) f1 f2 (G, σ, cc, cs) = some w) (k1 : f1 (G, σ, cc, cs) = some w → SWg E A nL Q (kdR E G σ) c0 s0 tgt L st) (k2 : f2 (G, σ, cc, cs) = some w → SWg E A nL Q (kdR E G σ) c0 s0 (pc + 3) L st) : SWg E A nL Q (kdR E G σ) c0 s0 pc L (.int y :: .int x :: st) := by
  obtain ⟨p, e, R, s, m, args, below, meth, c⟩ := A
  intro H locs ls hl hR hS
  refine lv_icmp_ge hX.1 hX.2.1 hd ht (fun q => ?_) (fun q => ?_)
  · exact k1 (by simpa only [cnd1, if_pos q] using hh) H locs ls hl hR hS
  · exact k2 (by simpa only [cnd1, if_neg q] using hh) H locs ls hl hR hS
theorem r1_iincL {E : kdE} {A : kdA} {G : kdS} {σ : kdM} {nL h c0 s0 cc cs pc : Nat} {Q : State → Prop} {L : List (Nat × Value)} {st : List Value} {bc : ByteArray} {own : String} {ret : Option FieldType} {i : Nat} {n : Int} {x : Int32} {β : Type} {f : Int32 → kd1 → Option β} {w : β} {L2 : Int32 → List (Nat × Value)} (hX : kdX E A bc nL own ret h) (hd : decode bc pc = .ok (.iinc i n, 3)) (hh : lt1 (x + Int32.ofInt n) f (G, σ, cc, cs) = some w) (j : Nat) (hk : L[j]? = some (i, .int x)) (hn : i < nL) (hl2 : ∀ v : Int32, (i, Value.int v) :: L.filter (fun q => !(q.1 == i) && !(q.1 + 1 == i && q.2.category == 2)) = L2 v) (k : ∀ v : Int32, f v (G, σ, cc, cs) = some w → SWg E A nL Q (kdR E G σ) c0 s0 (pc + 3) (L2 v) st) : SWg E A nL Q (kdR E G σ) c0 s0 pc L st :=
  r_iinc hX hd j hk rfl hn (hl2 _) (k _ hh)
theorem w_ml_X6_3 : Cond.methodLink RX6 3 Lib.objectInit ∈ kdtb := kdtb_mem 35 (by decide +kernel) rfl
theorem w_im_OI : Cond.instanceMethod Lib.objectInit ∈ kdtb := kdtb_mem 28 (by decide +kernel) rfl
theorem w_cd_OI : Cond.code Lib.objectInit ⟨#[0xb1]⟩ 1 none ∈ kdtb := kdtb_mem 29 (by decide +kernel) rfl
theorem w_ac_int : Cond.arrayClass .int ∈ kdtb := kdtb_mem 46 (by decide +kernel) rfl
theorem w_ml_X0_3 : Cond.methodLink RX0 3 Lib.objectInit ∈ kdtb := kdtb_mem 201 (by decide +kernel) rfl
theorem w_cL_X0_9 : Cond.classLink RX0 9 "[[I" ∈ kdtb := kdtb_mem 202 (by decide +kernel) rfl
theorem w_cL_X0_16 : Cond.classLink RX0 16 "KeyDesk$Row" ∈ kdtb := kdtb_mem 203 (by decide +kernel) rfl
theorem w_is_X6 : Cond.instantiable "KeyDesk$Row" 2 ∈ kdtb := kdtb_mem 31 (by decide +kernel) rfl
theorem w_cL_X0_31 : Cond.classLink RX0 31 "[[J" ∈ kdtb := kdtb_mem 205 (by decide +kernel) rfl
theorem w_ac_long : Cond.arrayClass .long ∈ kdtb := kdtb_mem 232 (by decide +kernel) rfl
theorem w_ml_X1_3 : Cond.methodLink RX1 3 Lib.objectInit ∈ kdtb := kdtb_mem 148 (by decide +kernel) rfl
theorem w_cL_X1_9 : Cond.classLink RX1 9 "KeyDesk$Row" ∈ kdtb := kdtb_mem 149 (by decide +kernel) rfl
theorem w_ml_X2_3 : Cond.methodLink RX2 3 Lib.objectInit ∈ kdtb := kdtb_mem 238 (by decide +kernel) rfl
theorem w_cL_X2_9 : Cond.classLink RX2 9 "KeyDesk$Row" ∈ kdtb := kdtb_mem 239 (by decide +kernel) rfl
theorem w_ml_X3_3 : Cond.methodLink RX3 3 Lib.objectInit ∈ kdtb := kdtb_mem 265 (by decide +kernel) rfl
theorem w_cL_X3_21 : Cond.classLink RX3 21 "[[I" ∈ kdtb := kdtb_mem 266 (by decide +kernel) rfl
theorem w_ml_X4_3 : Cond.methodLink RX4 3 Lib.objectInit ∈ kdtb := kdtb_mem 88 (by decide +kernel) rfl
theorem w_cL_X4_9 : Cond.classLink RX4 9 "KeyDesk$Row" ∈ kdtb := kdtb_mem 89 (by decide +kernel) rfl
theorem w_ml_X5_3 : Cond.methodLink RX5 3 Lib.objectInit ∈ kdtb := kdtb_mem 166 (by decide +kernel) rfl
theorem w_cL_X5_24 : Cond.classLink RX5 24 "KeyDesk$Row" ∈ kdtb := kdtb_mem 167 (by decide +kernel) rfl
theorem w_ml_X7_3 : Cond.methodLink RX7 3 Lib.objectInit ∈ kdtb := kdtb_mem 133 (by decide +kernel) rfl
theorem w_cL_X7_15 : Cond.classLink RX7 15 "[[I" ∈ kdtb := kdtb_mem 134 (by decide +kernel) rfl
theorem w_cL_X8_9 : Cond.classLink RX8 9 "KeyDesk$Row" ∈ kdtb := kdtb_mem 54 (by decide +kernel) rfl
theorem w_ml_X8_3 : Cond.methodLink RX8 3 Lib.objectInit ∈ kdtb := kdtb_mem 53 (by decide +kernel) rfl
theorem w_ac_boolean : Cond.arrayClass .boolean ∈ kdtb := kdtb_mem 82 (by decide +kernel) rfl
theorem w_ml_X9_3 : Cond.methodLink RX9 3 Lib.objectInit ∈ kdtb := kdtb_mem 302 (by decide +kernel) rfl
theorem w_cL_X9_31 : Cond.classLink RX9 31 "KeyDesk$Row" ∈ kdtb := kdtb_mem 303 (by decide +kernel) rfl
theorem w_cL_X10_9 : Cond.classLink RX10 9 "KeyDesk$Row" ∈ kdtb := kdtb_mem 113 (by decide +kernel) rfl
theorem w_ml_X10_3 : Cond.methodLink RX10 3 Lib.objectInit ∈ kdtb := kdtb_mem 112 (by decide +kernel) rfl
theorem w_cL_X11_28 : Cond.classLink RX11 28 "KeyDesk$Line" ∈ kdtb := kdtb_mem 83 (by decide +kernel) rfl
theorem w_is_X4 : Cond.instantiable "KeyDesk$Line" 5 ∈ kdtb := kdtb_mem 84 (by decide +kernel) rfl
theorem w_cL_X11_35 : Cond.classLink RX11 35 "KeyDesk$Words" ∈ kdtb := kdtb_mem 107 (by decide +kernel) rfl
theorem w_is_X10 : Cond.instantiable "KeyDesk$Words" 4 ∈ kdtb := kdtb_mem 108 (by decide +kernel) rfl
theorem w_cL_X11_42 : Cond.classLink RX11 42 "KeyDesk$Slips" ∈ kdtb := kdtb_mem 128 (by decide +kernel) rfl
theorem w_is_X7 : Cond.instantiable "KeyDesk$Slips" 2 ∈ kdtb := kdtb_mem 129 (by decide +kernel) rfl
theorem w_cL_X11_49 : Cond.classLink RX11 49 "KeyDesk$Guesses" ∈ kdtb := kdtb_mem 143 (by decide +kernel) rfl
theorem w_is_X1 : Cond.instantiable "KeyDesk$Guesses" 3 ∈ kdtb := kdtb_mem 144 (by decide +kernel) rfl
theorem w_cL_X11_56 : Cond.classLink RX11 56 "KeyDesk$Parting" ∈ kdtb := kdtb_mem 161 (by decide +kernel) rfl
theorem w_is_X5 : Cond.instantiable "KeyDesk$Parting" 9 ∈ kdtb := kdtb_mem 162 (by decide +kernel) rfl
theorem w_cL_X11_65 : Cond.classLink RX11 65 "KeyDesk$Choice" ∈ kdtb := kdtb_mem 196 (by decide +kernel) rfl
theorem w_is_X0 : Cond.instantiable "KeyDesk$Choice" 8 ∈ kdtb := kdtb_mem 197 (by decide +kernel) rfl
theorem w_cL_X11_74 : Cond.classLink RX11 74 "KeyDesk$Hands" ∈ kdtb := kdtb_mem 233 (by decide +kernel) rfl
theorem w_is_X2 : Cond.instantiable "KeyDesk$Hands" 6 ∈ kdtb := kdtb_mem 234 (by decide +kernel) rfl
theorem w_cL_X11_81 : Cond.classLink RX11 81 "KeyDesk$Layouts" ∈ kdtb := kdtb_mem 260 (by decide +kernel) rfl
theorem w_is_X3 : Cond.instantiable "KeyDesk$Layouts" 9 ∈ kdtb := kdtb_mem 261 (by decide +kernel) rfl
theorem w_cL_X11_88 : Cond.classLink RX11 88 "KeyDesk$Ways" ∈ kdtb := kdtb_mem 297 (by decide +kernel) rfl
theorem w_is_X9 : Cond.instantiable "KeyDesk$Ways" 12 ∈ kdtb := kdtb_mem 298 (by decide +kernel) rfl
theorem w_cL_X11_21 : Cond.classLink RX11 21 "KeyDesk$Tongue" ∈ kdtb := kdtb_mem 47 (by decide +kernel) rfl
theorem w_is_X8 : Cond.instantiable "KeyDesk$Tongue" 8 ∈ kdtb := kdtb_mem 49 (by decide +kernel) rfl
theorem w_ml_X11_1 : Cond.methodLink RX11 1 Lib.objectInit ∈ kdtb := kdtb_mem 27 (by decide +kernel) rfl
theorem w_cL_X11_7 : Cond.classLink RX11 7 "KeyDesk$Row" ∈ kdtb := kdtb_mem 30 (by decide +kernel) rfl
theorem w_ml_X6_9 : Cond.methodLink RX6 9 Lib.Math.max.name ∈ kdtb := kdtb_mem 36 (by decide +kernel) rfl
theorem w_fl_X0_11 : Cond.fieldLink RX0 11 "KeyDesk$Choice" "together" "[[I" ∈ kdtb := kdtb_mem 208 (by decide +kernel) rfl
theorem w_ml_X0_18 : Cond.methodLink RX0 18 yX6_init ∈ kdtb := kdtb_mem 204 (by decide +kernel) rfl
theorem w_cd_X6_init : Cond.code yX6_init cX6_init 2 none ∈ kdtb := kdtb_mem 34 (by decide +kernel) rfl
theorem w_im_X6_init : Cond.instanceMethod yX6_init ∈ kdtb := kdtb_mem 33 (by decide +kernel) rfl
theorem w_fl_X0_25 : Cond.fieldLink RX0 25 "KeyDesk$Choice" "fixed" "LKeyDesk$Row;" ∈ kdtb := kdtb_mem 211 (by decide +kernel) rfl
theorem w_fl_X0_28 : Cond.fieldLink RX0 28 "KeyDesk$Choice" "chosenWords" "LKeyDesk$Row;" ∈ kdtb := kdtb_mem 212 (by decide +kernel) rfl
theorem w_fl_X0_33 : Cond.fieldLink RX0 33 "KeyDesk$Choice" "greatest" "[[J" ∈ kdtb := kdtb_mem 213 (by decide +kernel) rfl
theorem w_fl_X0_36 : Cond.fieldLink RX0 36 "KeyDesk$Choice" "nextWords" "[[I" ∈ kdtb := kdtb_mem 214 (by decide +kernel) rfl
theorem w_fl_X0_39 : Cond.fieldLink RX0 39 "KeyDesk$Choice" "words" "LKeyDesk$Words;" ∈ kdtb := kdtb_mem 207 (by decide +kernel) rfl
theorem w_ml_X1_11 : Cond.methodLink RX1 11 yX6_init ∈ kdtb := kdtb_mem 150 (by decide +kernel) rfl
theorem w_ml_X2_11 : Cond.methodLink RX2 11 yX6_init ∈ kdtb := kdtb_mem 240 (by decide +kernel) rfl
theorem w_fl_X3_26 : Cond.fieldLink RX3 26 "KeyDesk$Layouts" "sameFinger" "I" ∈ kdtb := kdtb_mem 276 (by decide +kernel) rfl
theorem w_fl_X3_30 : Cond.fieldLink RX3 30 "KeyDesk$Layouts" "places" "[I" ∈ kdtb := kdtb_mem 277 (by decide +kernel) rfl
theorem w_cd_X3_startAnew : Cond.code yX3_startAnew cX3_startAnew 5 (some .int) ∈ kdtb := kdtb_mem 270 (by decide +kernel) rfl
theorem w_ml_X3_33 : Cond.methodLink RX3 33 yX3_startAnew ∈ kdtb := kdtb_mem 267 (by decide +kernel) rfl
theorem w_im_X3_startAnew : Cond.instanceMethod yX3_startAnew ∈ kdtb := kdtb_mem 268 (by decide +kernel) rfl
theorem w_se_X3_startAnew : Cond.selects yX3_startAnew.cls yX3_startAnew yX3_startAnew ∈ kdtb := kdtb_mem 269 (by decide +kernel) rfl
theorem w_ml_X4_11 : Cond.methodLink RX4 11 yX6_init ∈ kdtb := kdtb_mem 90 (by decide +kernel) rfl
theorem w_fl_X4_20 : Cond.fieldLink RX4 20 "KeyDesk$Line" "rulesOfPieces" "LKeyDesk$Row;" ∈ kdtb := kdtb_mem 92 (by decide +kernel) rfl
theorem w_fl_X4_23 : Cond.fieldLink RX4 23 "KeyDesk$Line" "starts" "LKeyDesk$Row;" ∈ kdtb := kdtb_mem 93 (by decide +kernel) rfl
theorem w_fl_X4_26 : Cond.fieldLink RX4 26 "KeyDesk$Line" "signs" "LKeyDesk$Row;" ∈ kdtb := kdtb_mem 94 (by decide +kernel) rfl
theorem w_fl_X5_11 : Cond.fieldLink RX5 11 "KeyDesk$Parting" "sums" "[I" ∈ kdtb := kdtb_mem 171 (by decide +kernel) rfl
theorem w_fl_X5_15 : Cond.fieldLink RX5 15 "KeyDesk$Parting" "products" "[I" ∈ kdtb := kdtb_mem 172 (by decide +kernel) rfl
theorem w_fl_X5_18 : Cond.fieldLink RX5 18 "KeyDesk$Parting" "firstWords" "[I" ∈ kdtb := kdtb_mem 173 (by decide +kernel) rfl
theorem w_fl_X5_21 : Cond.fieldLink RX5 21 "KeyDesk$Parting" "firstLengths" "[I" ∈ kdtb := kdtb_mem 174 (by decide +kernel) rfl
theorem w_ml_X5_26 : Cond.methodLink RX5 26 yX6_init ∈ kdtb := kdtb_mem 168 (by decide +kernel) rfl
theorem w_fl_X5_29 : Cond.fieldLink RX5 29 "KeyDesk$Parting" "foundWords" "LKeyDesk$Row;" ∈ kdtb := kdtb_mem 175 (by decide +kernel) rfl
theorem w_fl_X5_33 : Cond.fieldLink RX5 33 "KeyDesk$Parting" "foundLengths" "LKeyDesk$Row;" ∈ kdtb := kdtb_mem 176 (by decide +kernel) rfl
theorem w_fl_X5_36 : Cond.fieldLink RX5 36 "KeyDesk$Parting" "words" "LKeyDesk$Words;" ∈ kdtb := kdtb_mem 169 (by decide +kernel) rfl
theorem w_fl_X5_40 : Cond.fieldLink RX5 40 "KeyDesk$Parting" "slips" "LKeyDesk$Slips;" ∈ kdtb := kdtb_mem 170 (by decide +kernel) rfl
theorem w_fl_X8_11 : Cond.fieldLink RX8 11 "KeyDesk$Tongue" "keysOfRules" "[LKeyDesk$Row;" ∈ kdtb := kdtb_mem 57 (by decide +kernel) rfl
theorem w_ml_X8_20 : Cond.methodLink RX8 20 yX6_init ∈ kdtb := kdtb_mem 56 (by decide +kernel) rfl
theorem w_fl_X8_17 : Cond.fieldLink RX8 17 "KeyDesk$Tongue" "lettersOfRules" "[LKeyDesk$Row;" ∈ kdtb := kdtb_mem 58 (by decide +kernel) rfl
theorem w_fl_X8_23 : Cond.fieldLink RX8 23 "KeyDesk$Tongue" "firsts" "LKeyDesk$Row;" ∈ kdtb := kdtb_mem 60 (by decide +kernel) rfl
theorem w_fl_X8_27 : Cond.fieldLink RX8 27 "KeyDesk$Tongue" "seconds" "LKeyDesk$Row;" ∈ kdtb := kdtb_mem 61 (by decide +kernel) rfl
theorem w_fl_X8_33 : Cond.fieldLink RX8 33 "KeyDesk$Tongue" "letters" "[Z" ∈ kdtb := kdtb_mem 63 (by decide +kernel) rfl
theorem w_fl_X8_37 : Cond.fieldLink RX8 37 "KeyDesk$Tongue" "made" "[Z" ∈ kdtb := kdtb_mem 64 (by decide +kernel) rfl
theorem w_fl_X9_9 : Cond.fieldLink RX9 9 "KeyDesk$Ways" "digits" "[I" ∈ kdtb := kdtb_mem 306 (by decide +kernel) rfl
theorem w_fl_X9_15 : Cond.fieldLink RX9 15 "KeyDesk$Ways" "costs" "[I" ∈ kdtb := kdtb_mem 307 (by decide +kernel) rfl
theorem w_fl_X9_18 : Cond.fieldLink RX9 18 "KeyDesk$Ways" "neighbours" "[I" ∈ kdtb := kdtb_mem 308 (by decide +kernel) rfl
theorem w_fl_X9_21 : Cond.fieldLink RX9 21 "KeyDesk$Ways" "peaks" "[I" ∈ kdtb := kdtb_mem 309 (by decide +kernel) rfl
theorem w_fl_X9_24 : Cond.fieldLink RX9 24 "KeyDesk$Ways" "settled" "[Z" ∈ kdtb := kdtb_mem 310 (by decide +kernel) rfl
theorem w_fl_X9_28 : Cond.fieldLink RX9 28 "KeyDesk$Ways" "steps" "[I" ∈ kdtb := kdtb_mem 311 (by decide +kernel) rfl
theorem w_ml_X9_33 : Cond.methodLink RX9 33 yX6_init ∈ kdtb := kdtb_mem 304 (by decide +kernel) rfl
theorem w_fl_X9_36 : Cond.fieldLink RX9 36 "KeyDesk$Ways" "queue" "LKeyDesk$Row;" ∈ kdtb := kdtb_mem 312 (by decide +kernel) rfl
theorem w_fl_X9_40 : Cond.fieldLink RX9 40 "KeyDesk$Ways" "path" "LKeyDesk$Row;" ∈ kdtb := kdtb_mem 313 (by decide +kernel) rfl
theorem w_fl_X9_43 : Cond.fieldLink RX9 43 "KeyDesk$Ways" "layouts" "LKeyDesk$Layouts;" ∈ kdtb := kdtb_mem 305 (by decide +kernel) rfl
theorem w_ml_X10_11 : Cond.methodLink RX10 11 yX6_init ∈ kdtb := kdtb_mem 114 (by decide +kernel) rfl
theorem w_cd_X4_init : Cond.code yX4_init cX4_init 1 none ∈ kdtb := kdtb_mem 87 (by decide +kernel) rfl
theorem w_im_X4_init : Cond.instanceMethod yX4_init ∈ kdtb := kdtb_mem 86 (by decide +kernel) rfl
theorem w_ml_X11_37 : Cond.methodLink RX11 37 yX10_init ∈ kdtb := kdtb_mem 109 (by decide +kernel) rfl
theorem w_cd_X10_init : Cond.code yX10_init cX10_init 2 none ∈ kdtb := kdtb_mem 111 (by decide +kernel) rfl
theorem w_im_X10_init : Cond.instanceMethod yX10_init ∈ kdtb := kdtb_mem 110 (by decide +kernel) rfl
theorem w_cd_X7_init : Cond.code yX7_init cX7_init 1 none ∈ kdtb := kdtb_mem 132 (by decide +kernel) rfl
theorem w_im_X7_init : Cond.instanceMethod yX7_init ∈ kdtb := kdtb_mem 131 (by decide +kernel) rfl
theorem w_cd_X1_init : Cond.code yX1_init cX1_init 1 none ∈ kdtb := kdtb_mem 147 (by decide +kernel) rfl
theorem w_im_X1_init : Cond.instanceMethod yX1_init ∈ kdtb := kdtb_mem 146 (by decide +kernel) rfl
theorem w_in_X5 : Cond.initialized RX5 ∈ kdtb := kdtb_mem 17 (by decide +kernel) rfl
theorem w_ml_X11_58 : Cond.methodLink RX11 58 yX5_init ∈ kdtb := kdtb_mem 163 (by decide +kernel) rfl
theorem w_cd_X5_init : Cond.code yX5_init cX5_init 3 none ∈ kdtb := kdtb_mem 165 (by decide +kernel) rfl
theorem w_im_X5_init : Cond.instanceMethod yX5_init ∈ kdtb := kdtb_mem 164 (by decide +kernel) rfl
theorem w_fl_X11_61 : Cond.fieldLink RX11 61 "KeyDesk" "parting" "LKeyDesk$Parting;" ∈ kdtb := kdtb_mem 346 (by decide +kernel) rfl
theorem w_ml_X11_67 : Cond.methodLink RX11 67 yX0_init ∈ kdtb := kdtb_mem 198 (by decide +kernel) rfl
theorem w_cd_X0_init : Cond.code yX0_init cX0_init 2 none ∈ kdtb := kdtb_mem 200 (by decide +kernel) rfl
theorem w_im_X0_init : Cond.instanceMethod yX0_init ∈ kdtb := kdtb_mem 199 (by decide +kernel) rfl
theorem w_cd_X2_init : Cond.code yX2_init cX2_init 1 none ∈ kdtb := kdtb_mem 237 (by decide +kernel) rfl
theorem w_im_X2_init : Cond.instanceMethod yX2_init ∈ kdtb := kdtb_mem 236 (by decide +kernel) rfl
theorem w_ml_X11_83 : Cond.methodLink RX11 83 yX3_init ∈ kdtb := kdtb_mem 262 (by decide +kernel) rfl
theorem w_cd_X3_init : Cond.code yX3_init cX3_init 1 none ∈ kdtb := kdtb_mem 264 (by decide +kernel) rfl
theorem w_im_X3_init : Cond.instanceMethod yX3_init ∈ kdtb := kdtb_mem 263 (by decide +kernel) rfl
theorem w_in_X9 : Cond.initialized RX9 ∈ kdtb := kdtb_mem 21 (by decide +kernel) rfl
theorem w_ml_X11_90 : Cond.methodLink RX11 90 yX9_init ∈ kdtb := kdtb_mem 299 (by decide +kernel) rfl
theorem w_cd_X9_init : Cond.code yX9_init cX9_init 2 none ∈ kdtb := kdtb_mem 301 (by decide +kernel) rfl
theorem w_im_X9_init : Cond.instanceMethod yX9_init ∈ kdtb := kdtb_mem 300 (by decide +kernel) rfl
theorem w_fl_X11_93 : Cond.fieldLink RX11 93 "KeyDesk" "ways" "LKeyDesk$Ways;" ∈ kdtb := kdtb_mem 350 (by decide +kernel) rfl
theorem w_ml_X11_27 : Cond.methodLink RX11 27 yX8_init ∈ kdtb := kdtb_mem 50 (by decide +kernel) rfl
theorem w_cd_X8_init : Cond.code yX8_init cX8_init 2 none ∈ kdtb := kdtb_mem 52 (by decide +kernel) rfl
theorem w_im_X8_init : Cond.instanceMethod yX8_init ∈ kdtb := kdtb_mem 51 (by decide +kernel) rfl
theorem w_ml_X11_11 : Cond.methodLink RX11 11 yX6_init ∈ kdtb := kdtb_mem 32 (by decide +kernel) rfl
theorem kd_dd_X6 : kdD 6 := ⟨RX6, TX6, 2, tyX6, rfl, kd_in_X6, tyX6_ok, by decide +kernel⟩
theorem kd_dd_X4 : kdD 4 := ⟨RX4, TX4, 5, tyX4, rfl, kd_in_X4, tyX4_ok, by decide +kernel⟩
theorem kd_dd_X10 : kdD 10 := ⟨RX10, TX10, 4, tyX10, rfl, kd_in_X10, tyX10_ok, by decide +kernel⟩
theorem kd_dd_X7 : kdD 7 := ⟨RX7, TX7, 2, tyX7, rfl, kd_in_X7, tyX7_ok, by decide +kernel⟩
theorem kd_dd_X1 : kdD 1 := ⟨RX1, TX1, 3, tyX1, rfl, kd_in_X1, tyX1_ok, by decide +kernel⟩
theorem kd_dd_X5 : kdD 5 := ⟨RX5, TX5, 9, tyX5, rfl, kd_in_X5, tyX5_ok, by decide +kernel⟩
theorem kd_dd_X0 : kdD 0 := ⟨RX0, TX0, 8, tyX0, rfl, kd_in_X0, tyX0_ok, by decide +kernel⟩
theorem kd_dd_X2 : kdD 2 := ⟨RX2, TX2, 6, tyX2, rfl, kd_in_X2, tyX2_ok, by decide +kernel⟩
theorem kd_dd_X3 : kdD 3 := ⟨RX3, TX3, 9, tyX3, rfl, kd_in_X3, tyX3_ok, by decide +kernel⟩
theorem kd_dd_X9 : kdD 9 := ⟨RX9, TX9, 12, tyX9, rfl, kd_in_X9, tyX9_ok, by decide +kernel⟩
theorem kd_dd_X8 : kdD 8 := ⟨RX8, TX8, 8, tyX8, rfl, kd_in_X8, tyX8_ok, by decide +kernel⟩
theorem kk_i_5 : Int32.ofInt 5 = (5 : Int32) := by decide
theorem kk_s_900 : (Int16.ofInt 900).toInt32 = (900 : Int32) := by decide
theorem kk_b_40 : (Int8.ofInt 40).toInt32 = (40 : Int32) := by decide
theorem kk_b_120 : (Int8.ofInt 120).toInt32 = (120 : Int32) := by decide
theorem kk_s_340 : (Int16.ofInt 340).toInt32 = (340 : Int32) := by decide
theorem kk_b_6 : (Int8.ofInt 6).toInt32 = (6 : Int32) := by decide
theorem kk_b_17 : (Int8.ofInt 17).toInt32 = (17 : Int32) := by decide
theorem kk_b_9 : (Int8.ofInt 9).toInt32 = (9 : Int32) := by decide
theorem kk_b_24 : (Int8.ofInt 24).toInt32 = (24 : Int32) := by decide
theorem kk_b_12 : (Int8.ofInt 12).toInt32 = (12 : Int32) := by decide
theorem kk_b_61 : (Int8.ofInt 61).toInt32 = (61 : Int32) := by decide
theorem kk_s_1200 : (Int16.ofInt 1200).toInt32 = (1200 : Int32) := by decide
theorem kk_b_16 : (Int8.ofInt 16).toInt32 = (16 : Int32) := by decide
theorem kf_X0_11 : kdF RX0 11 0 1 := ⟨RX0, TX0, 8, rfl, by decide, w_fl_X0_11, rfl, kd_in_X0, nmX0, tyX0, tyX0_ok, fun h => absurd h (by decide +kernel)⟩
theorem kf_X0_25 : kdF RX0 25 0 4 := ⟨RX0, TX0, 8, rfl, by decide, w_fl_X0_25, rfl, kd_in_X0, nmX0, tyX0, tyX0_ok, fun h => absurd h (by decide +kernel)⟩
theorem kf_X0_28 : kdF RX0 28 0 5 := ⟨RX0, TX0, 8, rfl, by decide, w_fl_X0_28, rfl, kd_in_X0, nmX0, tyX0, tyX0_ok, fun h => absurd h (by decide +kernel)⟩
theorem kf_X0_33 : kdF RX0 33 0 6 := ⟨RX0, TX0, 8, rfl, by decide, w_fl_X0_33, rfl, kd_in_X0, nmX0, tyX0, tyX0_ok, fun h => absurd h (by decide +kernel)⟩
theorem kf_X0_36 : kdF RX0 36 0 7 := ⟨RX0, TX0, 8, rfl, by decide, w_fl_X0_36, rfl, kd_in_X0, nmX0, tyX0, tyX0_ok, fun h => absurd h (by decide +kernel)⟩
theorem kf_X0_39 : kdF RX0 39 0 0 := ⟨RX0, TX0, 8, rfl, by decide, w_fl_X0_39, rfl, kd_in_X0, nmX0, tyX0, tyX0_ok, fun h => absurd h (by decide +kernel)⟩
theorem kf_X3_26 : kdF RX3 26 3 5 := ⟨RX3, TX3, 9, rfl, by decide, w_fl_X3_26, rfl, kd_in_X3, nmX3, tyX3, tyX3_ok, fun _ _ => rfl⟩
theorem kf_X3_30 : kdF RX3 30 3 6 := ⟨RX3, TX3, 9, rfl, by decide, w_fl_X3_30, rfl, kd_in_X3, nmX3, tyX3, tyX3_ok, fun h => absurd h (by decide +kernel)⟩
theorem kf_X4_20 : kdF RX4 20 4 1 := ⟨RX4, TX4, 5, rfl, by decide, w_fl_X4_20, rfl, kd_in_X4, nmX4, tyX4, tyX4_ok, fun h => absurd h (by decide +kernel)⟩
theorem kf_X4_23 : kdF RX4 23 4 2 := ⟨RX4, TX4, 5, rfl, by decide, w_fl_X4_23, rfl, kd_in_X4, nmX4, tyX4, tyX4_ok, fun h => absurd h (by decide +kernel)⟩
theorem kf_X4_26 : kdF RX4 26 4 3 := ⟨RX4, TX4, 5, rfl, by decide, w_fl_X4_26, rfl, kd_in_X4, nmX4, tyX4, tyX4_ok, fun h => absurd h (by decide +kernel)⟩
theorem kf_X5_11 : kdF RX5 11 5 2 := ⟨RX5, TX5, 9, rfl, by decide, w_fl_X5_11, rfl, kd_in_X5, nmX5, tyX5, tyX5_ok, fun h => absurd h (by decide +kernel)⟩
theorem kf_X5_15 : kdF RX5 15 5 3 := ⟨RX5, TX5, 9, rfl, by decide, w_fl_X5_15, rfl, kd_in_X5, nmX5, tyX5, tyX5_ok, fun h => absurd h (by decide +kernel)⟩
theorem kf_X5_18 : kdF RX5 18 5 4 := ⟨RX5, TX5, 9, rfl, by decide, w_fl_X5_18, rfl, kd_in_X5, nmX5, tyX5, tyX5_ok, fun h => absurd h (by decide +kernel)⟩
theorem kf_X5_21 : kdF RX5 21 5 5 := ⟨RX5, TX5, 9, rfl, by decide, w_fl_X5_21, rfl, kd_in_X5, nmX5, tyX5, tyX5_ok, fun h => absurd h (by decide +kernel)⟩
theorem kf_X5_29 : kdF RX5 29 5 6 := ⟨RX5, TX5, 9, rfl, by decide, w_fl_X5_29, rfl, kd_in_X5, nmX5, tyX5, tyX5_ok, fun h => absurd h (by decide +kernel)⟩
theorem kf_X5_33 : kdF RX5 33 5 7 := ⟨RX5, TX5, 9, rfl, by decide, w_fl_X5_33, rfl, kd_in_X5, nmX5, tyX5, tyX5_ok, fun h => absurd h (by decide +kernel)⟩
theorem kf_X5_36 : kdF RX5 36 5 0 := ⟨RX5, TX5, 9, rfl, by decide, w_fl_X5_36, rfl, kd_in_X5, nmX5, tyX5, tyX5_ok, fun h => absurd h (by decide +kernel)⟩
theorem kf_X5_40 : kdF RX5 40 5 1 := ⟨RX5, TX5, 9, rfl, by decide, w_fl_X5_40, rfl, kd_in_X5, nmX5, tyX5, tyX5_ok, fun h => absurd h (by decide +kernel)⟩
theorem kf_X8_11 : kdF RX8 11 8 0 := ⟨RX8, TX8, 8, rfl, by decide, w_fl_X8_11, rfl, kd_in_X8, nmX8, tyX8, tyX8_ok, fun h => absurd h (by decide +kernel)⟩
theorem kf_X8_17 : kdF RX8 17 8 1 := ⟨RX8, TX8, 8, rfl, by decide, w_fl_X8_17, rfl, kd_in_X8, nmX8, tyX8, tyX8_ok, fun h => absurd h (by decide +kernel)⟩
theorem kf_X8_23 : kdF RX8 23 8 3 := ⟨RX8, TX8, 8, rfl, by decide, w_fl_X8_23, rfl, kd_in_X8, nmX8, tyX8, tyX8_ok, fun h => absurd h (by decide +kernel)⟩
theorem kf_X8_27 : kdF RX8 27 8 4 := ⟨RX8, TX8, 8, rfl, by decide, w_fl_X8_27, rfl, kd_in_X8, nmX8, tyX8, tyX8_ok, fun h => absurd h (by decide +kernel)⟩
theorem kf_X8_33 : kdF RX8 33 8 6 := ⟨RX8, TX8, 8, rfl, by decide, w_fl_X8_33, rfl, kd_in_X8, nmX8, tyX8, tyX8_ok, fun h => absurd h (by decide +kernel)⟩
theorem kf_X8_37 : kdF RX8 37 8 7 := ⟨RX8, TX8, 8, rfl, by decide, w_fl_X8_37, rfl, kd_in_X8, nmX8, tyX8, tyX8_ok, fun h => absurd h (by decide +kernel)⟩
theorem kf_X9_9 : kdF RX9 9 9 1 := ⟨RX9, TX9, 12, rfl, by decide, w_fl_X9_9, rfl, kd_in_X9, nmX9, tyX9, tyX9_ok, fun h => absurd h (by decide +kernel)⟩
theorem kf_X9_15 : kdF RX9 15 9 2 := ⟨RX9, TX9, 12, rfl, by decide, w_fl_X9_15, rfl, kd_in_X9, nmX9, tyX9, tyX9_ok, fun h => absurd h (by decide +kernel)⟩
theorem kf_X9_18 : kdF RX9 18 9 3 := ⟨RX9, TX9, 12, rfl, by decide, w_fl_X9_18, rfl, kd_in_X9, nmX9, tyX9, tyX9_ok, fun h => absurd h (by decide +kernel)⟩
theorem kf_X9_21 : kdF RX9 21 9 4 := ⟨RX9, TX9, 12, rfl, by decide, w_fl_X9_21, rfl, kd_in_X9, nmX9, tyX9, tyX9_ok, fun h => absurd h (by decide +kernel)⟩
theorem kf_X9_24 : kdF RX9 24 9 5 := ⟨RX9, TX9, 12, rfl, by decide, w_fl_X9_24, rfl, kd_in_X9, nmX9, tyX9, tyX9_ok, fun h => absurd h (by decide +kernel)⟩
theorem kf_X9_28 : kdF RX9 28 9 6 := ⟨RX9, TX9, 12, rfl, by decide, w_fl_X9_28, rfl, kd_in_X9, nmX9, tyX9, tyX9_ok, fun h => absurd h (by decide +kernel)⟩
theorem kf_X9_36 : kdF RX9 36 9 7 := ⟨RX9, TX9, 12, rfl, by decide, w_fl_X9_36, rfl, kd_in_X9, nmX9, tyX9, tyX9_ok, fun h => absurd h (by decide +kernel)⟩
theorem kf_X9_40 : kdF RX9 40 9 8 := ⟨RX9, TX9, 12, rfl, by decide, w_fl_X9_40, rfl, kd_in_X9, nmX9, tyX9, tyX9_ok, fun h => absurd h (by decide +kernel)⟩
theorem kf_X9_43 : kdF RX9 43 9 0 := ⟨RX9, TX9, 12, rfl, by decide, w_fl_X9_43, rfl, kd_in_X9, nmX9, tyX9, tyX9_ok, fun h => absurd h (by decide +kernel)⟩
theorem kf_X11_61 : kdF RX11 61 11 7 := ⟨RX11, TX11, 12, rfl, by decide, w_fl_X11_61, rfl, kd_in_X11, nmX11, tyX11, tyX11_ok, fun h => absurd h (by decide +kernel)⟩
theorem kf_X11_93 : kdF RX11 93 11 11 := ⟨RX11, TX11, 12, rfl, by decide, w_fl_X11_93, rfl, kd_in_X11, nmX11, tyX11, tyX11_ok, fun h => absurd h (by decide +kernel)⟩
theorem kl_X6_init : kdL yX6_init cX6_init 2 none 1 := ⟨w_cd_X6_init, w_in_X6, by decide +kernel, by decide +kernel, by decide⟩
theorem kl_X3_startAnew : kdL yX3_startAnew cX3_startAnew 5 (some .int) 1 := ⟨w_cd_X3_startAnew, w_in_X3, by decide +kernel, by decide +kernel, by decide⟩
theorem kl_X4_init : kdL yX4_init cX4_init 1 none 0 := ⟨w_cd_X4_init, w_in_X4, by decide +kernel, by decide +kernel, by decide⟩
theorem kl_X10_init : kdL yX10_init cX10_init 2 none 0 := ⟨w_cd_X10_init, w_in_X10, by decide +kernel, by decide +kernel, by decide⟩
theorem kl_X7_init : kdL yX7_init cX7_init 1 none 0 := ⟨w_cd_X7_init, w_in_X7, by decide +kernel, by decide +kernel, by decide⟩
theorem kl_X1_init : kdL yX1_init cX1_init 1 none 0 := ⟨w_cd_X1_init, w_in_X1, by decide +kernel, by decide +kernel, by decide⟩
theorem kl_X5_init : kdL yX5_init cX5_init 3 none 2 := ⟨w_cd_X5_init, w_in_X5, by decide +kernel, by decide +kernel, by decide⟩
theorem kl_X0_init : kdL yX0_init cX0_init 2 none 1 := ⟨w_cd_X0_init, w_in_X0, by decide +kernel, by decide +kernel, by decide⟩
theorem kl_X2_init : kdL yX2_init cX2_init 1 none 0 := ⟨w_cd_X2_init, w_in_X2, by decide +kernel, by decide +kernel, by decide⟩
theorem kl_X3_init : kdL yX3_init cX3_init 1 none 0 := ⟨w_cd_X3_init, w_in_X3, by decide +kernel, by decide +kernel, by decide⟩
theorem kl_X9_init : kdL yX9_init cX9_init 2 none 1 := ⟨w_cd_X9_init, w_in_X9, by decide +kernel, by decide +kernel, by decide⟩
theorem kl_X8_init : kdL yX8_init cX8_init 2 none 0 := ⟨w_cd_X8_init, w_in_X8, by decide +kernel, by decide +kernel, by decide⟩
def X6_init (l0 : Nat) (l1 : Int32) : kd1 → Option (Unit × kd1) :=
  n1A 13 ((kmax l1 (0 : Int32))) fun t1 =>
  s1R 6 0 l0 t1 <|
  rt1 ()
set_option maxRecDepth 100000 in
set_option maxHeartbeats 4000000 in
theorem wX6_init {E : kdE} {l0 : Nat} {l1 : Int32} {G : kdS} {σ : kdM} {mc ms : Nat} {G1 : kdS} {σ1 : kdM} {c1 s1 : Nat} (h : X6_init l0 l1 (G, σ, mc, ms) = some ((), (G1, σ1, c1, s1))) : Con1 E yX6_init cX6_init 2 none 1 mc ms [kr E l0, .int l1] G σ (none, G1, σ1) := by
  refine kd1_head (own := RX6) rfl rfl (by decide +kernel) (Nat.le_of_ble_eq_true rfl) (fun A hX hY hc hs => ?_)
  replace hc : 0 + mc = (kdAR A).cells := by rw [hc, Nat.zero_add]
  replace hs : 0 + ms = (kdAR A).slots := by rw [hs, Nat.zero_add]
  show SWg E A 2 (kd1E E (none, G1, σ1) A) (kdR E G σ) 0 0 0 [(0, kr E l0), (1, .int l1)] []
  unfold X6_init at h
  refine r_aload_n hX dX6_init_0 rfl 0 rfl ?_
  refine r1_obj hX hY dX6_init_1 w_ml_X6_3 w_im_OI w_cd_OI (by decide) (Nat.le_of_ble_eq_true rfl) ?_
  refine r_aload_n hX dX6_init_4 rfl 0 rfl ?_
  refine r_iload_n hX dX6_init_5 rfl 1 rfl ?_
  refine r_iconst hX dX6_init_6 kk_i_0 ?_
  refine r_mmax hX dX6_init_7 w_ml_X6_9 w_st_Math_max w_in_Math w_cd_Math_max (by decide) (Nat.le_of_ble_eq_true rfl) (kd1_ro hc hs) ?_
  refine r1_newa13 hX hY dX6_init_10 w_ac_int hc hs h ?_
  clear h hc hs; intro t1 G σ cc cs c0 s0 hc hs h
  refine r1_sR hX hY dX6_init_12 kf_X6_15 ⟨_, _, rfl⟩ rfl (by intro q hq; cases hq; exact ⟨_, tyX6_ok 0 (by decide), Or.inr ⟨_, rfl⟩⟩) hc hs h ?_
  clear h hc hs; intro G σ cc cs c0 s0 hc hs h
  exact r1_vret hX hc hs dX6_init_15 h
def X0_init (l0 : Nat) (l1 : Nat) : kd1 → Option (Unit × kd1) :=
  n1M 18 13 ((60 : Int32)) ((60 : Int32)) fun t1 =>
  s1R 0 1 l0 t1 <|
  n1 6 2 fun t2 =>
  sub1 1 5 (X6_init t2 (5 : Int32)) <|
  s1R 0 3 l0 t2 <|
  n1 6 2 fun t3 =>
  sub1 1 5 (X6_init t3 (5 : Int32)) <|
  s1R 0 4 l0 t3 <|
  n1 6 2 fun t4 =>
  sub1 1 5 (X6_init t4 (5 : Int32)) <|
  s1R 0 5 l0 t4 <|
  n1M 19 14 ((5 : Int32)) ((60 : Int32)) fun t5 =>
  s1R 0 6 l0 t5 <|
  n1M 18 13 ((5 : Int32)) ((60 : Int32)) fun t6 =>
  s1R 0 7 l0 t6 <|
  s1R 0 0 l0 l1 <|
  rt1 ()
set_option maxRecDepth 100000 in
set_option maxHeartbeats 4000000 in
theorem wX0_init {E : kdE} {l0 : Nat} {l1 : Nat} {G : kdS} {σ : kdM} {mc ms : Nat} {G1 : kdS} {σ1 : kdM} {c1 s1 : Nat} (h : X0_init l0 l1 (G, σ, mc, ms) = some ((), (G1, σ1, c1, s1))) : Con1 E yX0_init cX0_init 2 none 2 mc ms [kr E l0, kr E l1] G σ (none, G1, σ1) := by
  refine kd1_head (own := RX0) rfl rfl (by decide +kernel) (Nat.le_of_ble_eq_true rfl) (fun A hX hY hc hs => ?_)
  replace hc : 0 + mc = (kdAR A).cells := by rw [hc, Nat.zero_add]
  replace hs : 0 + ms = (kdAR A).slots := by rw [hs, Nat.zero_add]
  show SWg E A 2 (kd1E E (none, G1, σ1) A) (kdR E G σ) 0 0 0 [(0, kr E l0), (1, kr E l1)] []
  unfold X0_init at h
  refine r_aload_n hX dX0_init_0 rfl 0 rfl ?_
  refine r1_obj hX hY dX0_init_1 w_ml_X0_3 w_im_OI w_cd_OI (by decide) (Nat.le_of_ble_eq_true rfl) ?_
  refine r_aload_n hX dX0_init_4 rfl 0 rfl ?_
  refine r_bipush hX dX0_init_5 kk_b_60 ?_
  refine r_bipush hX dX0_init_7 kk_b_60 ?_
  refine r1_m18 hX hY dX0_init_9 w_cL_X0_9 w_ac_int hc hs h ?_
  clear h hc hs; intro t1 G σ cc cs c0 s0 hc hs h
  refine r1_sR hX hY dX0_init_13 kf_X0_11 ⟨_, _, rfl⟩ rfl (by intro q hq; cases hq; exact ⟨_, tyX0_ok 1 (by decide), Or.inr ⟨_, rfl⟩⟩) hc hs h ?_
  clear h hc hs; intro G σ cc cs c0 s0 hc hs h
  refine r_aload_n hX dX0_init_16 rfl 0 rfl ?_
  refine r1_new (n := 2) hX hY dX0_init_17 kd_dd_X6 ⟨_, rfl⟩ w_cL_X0_16 w_is_X6 w_in_X6 hc hs h ?_
  clear h hc hs; intro t2 G σ cc cs c0 s0 hc hs h
  refine r_dup hX dX0_init_20 rfl ?_
  refine r_iconst hX dX0_init_21 kk_i_5 ?_
  refine r1_cI (As := [.int (5 : Int32)]) (st := [kr E t2, kr E l0]) hX hY dX0_init_22 kl_X6_init w_ml_X0_18 w_im_X6_init rfl (by decide) rfl (Nat.le_of_ble_eq_true rfl) rfl hc hs h (fun G1 σ1 c1 s1 h => wX6_init h) ?_
  clear h hc hs; intro G σ cc cs c0 s0 hc hs h
  refine r1_sR hX hY dX0_init_25 kf_X0_21 ⟨_, _, rfl⟩ rfl (by intro q hq; cases hq; exact ⟨_, tyX0_ok 3 (by decide), Or.inl ⟨_, rfl⟩⟩) hc hs h ?_
  clear h hc hs; intro G σ cc cs c0 s0 hc hs h
  refine r_aload_n hX dX0_init_28 rfl 0 rfl ?_
  refine r1_new (n := 2) hX hY dX0_init_29 kd_dd_X6 ⟨_, rfl⟩ w_cL_X0_16 w_is_X6 w_in_X6 hc hs h ?_
  clear h hc hs; intro t3 G σ cc cs c0 s0 hc hs h
  refine r_dup hX dX0_init_32 rfl ?_
  refine r_iconst hX dX0_init_33 kk_i_5 ?_
  refine r1_cI (As := [.int (5 : Int32)]) (st := [kr E t3, kr E l0]) hX hY dX0_init_34 kl_X6_init w_ml_X0_18 w_im_X6_init rfl (by decide) rfl (Nat.le_of_ble_eq_true rfl) rfl hc hs h (fun G1 σ1 c1 s1 h => wX6_init h) ?_
  clear h hc hs; intro G σ cc cs c0 s0 hc hs h
  refine r1_sR hX hY dX0_init_37 kf_X0_25 ⟨_, _, rfl⟩ rfl (by intro q hq; cases hq; exact ⟨_, tyX0_ok 4 (by decide), Or.inl ⟨_, rfl⟩⟩) hc hs h ?_
  clear h hc hs; intro G σ cc cs c0 s0 hc hs h
  refine r_aload_n hX dX0_init_40 rfl 0 rfl ?_
  refine r1_new (n := 2) hX hY dX0_init_41 kd_dd_X6 ⟨_, rfl⟩ w_cL_X0_16 w_is_X6 w_in_X6 hc hs h ?_
  clear h hc hs; intro t4 G σ cc cs c0 s0 hc hs h
  refine r_dup hX dX0_init_44 rfl ?_
  refine r_iconst hX dX0_init_45 kk_i_5 ?_
  refine r1_cI (As := [.int (5 : Int32)]) (st := [kr E t4, kr E l0]) hX hY dX0_init_46 kl_X6_init w_ml_X0_18 w_im_X6_init rfl (by decide) rfl (Nat.le_of_ble_eq_true rfl) rfl hc hs h (fun G1 σ1 c1 s1 h => wX6_init h) ?_
  clear h hc hs; intro G σ cc cs c0 s0 hc hs h
  refine r1_sR hX hY dX0_init_49 kf_X0_28 ⟨_, _, rfl⟩ rfl (by intro q hq; cases hq; exact ⟨_, tyX0_ok 5 (by decide), Or.inl ⟨_, rfl⟩⟩) hc hs h ?_
  clear h hc hs; intro G σ cc cs c0 s0 hc hs h
  refine r_aload_n hX dX0_init_52 rfl 0 rfl ?_
  refine r_iconst hX dX0_init_53 kk_i_5 ?_
  refine r_bipush hX dX0_init_54 kk_b_60 ?_
  refine r1_m19 hX hY dX0_init_56 w_cL_X0_31 w_ac_long hc hs h ?_
  clear h hc hs; intro t5 G σ cc cs c0 s0 hc hs h
  refine r1_sR hX hY dX0_init_60 kf_X0_33 ⟨_, _, rfl⟩ rfl (by intro q hq; cases hq; exact ⟨_, tyX0_ok 6 (by decide), Or.inr ⟨_, rfl⟩⟩) hc hs h ?_
  clear h hc hs; intro G σ cc cs c0 s0 hc hs h
  refine r_aload_n hX dX0_init_63 rfl 0 rfl ?_
  refine r_iconst hX dX0_init_64 kk_i_5 ?_
  refine r_bipush hX dX0_init_65 kk_b_60 ?_
  refine r1_m18 hX hY dX0_init_67 w_cL_X0_9 w_ac_int hc hs h ?_
  clear h hc hs; intro t6 G σ cc cs c0 s0 hc hs h
  refine r1_sR hX hY dX0_init_71 kf_X0_36 ⟨_, _, rfl⟩ rfl (by intro q hq; cases hq; exact ⟨_, tyX0_ok 7 (by decide), Or.inr ⟨_, rfl⟩⟩) hc hs h ?_
  clear h hc hs; intro G σ cc cs c0 s0 hc hs h
  refine r_aload_n hX dX0_init_74 rfl 0 rfl ?_
  refine r_aload_n hX dX0_init_75 rfl 1 rfl ?_
  refine r1_sR hX hY dX0_init_76 kf_X0_39 ⟨_, _, rfl⟩ rfl (by intro q hq; cases hq; exact ⟨_, tyX0_ok 0 (by decide), Or.inl ⟨_, rfl⟩⟩) hc hs h ?_
  clear h hc hs; intro G σ cc cs c0 s0 hc hs h
  exact r1_vret hX hc hs dX0_init_79 h
def X1_init (l0 : Nat) : kd1 → Option (Unit × kd1) :=
  n1 6 2 fun t1 =>
  sub1 1 60 (X6_init t1 (60 : Int32)) <|
  s1R 1 0 l0 t1 <|
  n1 6 2 fun t2 =>
  sub1 1 60 (X6_init t2 (60 : Int32)) <|
  s1R 1 1 l0 t2 <|
  n1 6 2 fun t3 =>
  sub1 1 60 (X6_init t3 (60 : Int32)) <|
  s1R 1 2 l0 t3 <|
  rt1 ()
set_option maxRecDepth 100000 in
set_option maxHeartbeats 4000000 in
theorem wX1_init {E : kdE} {l0 : Nat} {G : kdS} {σ : kdM} {mc ms : Nat} {G1 : kdS} {σ1 : kdM} {c1 s1 : Nat} (h : X1_init l0 (G, σ, mc, ms) = some ((), (G1, σ1, c1, s1))) : Con1 E yX1_init cX1_init 1 none 2 mc ms [kr E l0] G σ (none, G1, σ1) := by
  refine kd1_head (own := RX1) rfl rfl (by decide +kernel) (Nat.le_of_ble_eq_true rfl) (fun A hX hY hc hs => ?_)
  replace hc : 0 + mc = (kdAR A).cells := by rw [hc, Nat.zero_add]
  replace hs : 0 + ms = (kdAR A).slots := by rw [hs, Nat.zero_add]
  show SWg E A 1 (kd1E E (none, G1, σ1) A) (kdR E G σ) 0 0 0 [(0, kr E l0)] []
  unfold X1_init at h
  refine r_aload_n hX dX1_init_0 rfl 0 rfl ?_
  refine r1_obj hX hY dX1_init_1 w_ml_X1_3 w_im_OI w_cd_OI (by decide) (Nat.le_of_ble_eq_true rfl) ?_
  refine r_aload_n hX dX1_init_4 rfl 0 rfl ?_
  refine r1_new (n := 2) hX hY dX1_init_5 kd_dd_X6 ⟨_, rfl⟩ w_cL_X1_9 w_is_X6 w_in_X6 hc hs h ?_
  clear h hc hs; intro t1 G σ cc cs c0 s0 hc hs h
  refine r_dup hX dX1_init_8 rfl ?_
  refine r_bipush hX dX1_init_9 kk_b_60 ?_
  refine r1_cI (As := [.int (60 : Int32)]) (st := [kr E t1, kr E l0]) hX hY dX1_init_11 kl_X6_init w_ml_X1_11 w_im_X6_init rfl (by decide) rfl (Nat.le_of_ble_eq_true rfl) rfl hc hs h (fun G1 σ1 c1 s1 h => wX6_init h) ?_
  clear h hc hs; intro G σ cc cs c0 s0 hc hs h
  refine r1_sR hX hY dX1_init_14 kf_X1_14 ⟨_, _, rfl⟩ rfl (by intro q hq; cases hq; exact ⟨_, tyX1_ok 0 (by decide), Or.inl ⟨_, rfl⟩⟩) hc hs h ?_
  clear h hc hs; intro G σ cc cs c0 s0 hc hs h
  refine r_aload_n hX dX1_init_17 rfl 0 rfl ?_
  refine r1_new (n := 2) hX hY dX1_init_18 kd_dd_X6 ⟨_, rfl⟩ w_cL_X1_9 w_is_X6 w_in_X6 hc hs h ?_
  clear h hc hs; intro t2 G σ cc cs c0 s0 hc hs h
  refine r_dup hX dX1_init_21 rfl ?_
  refine r_bipush hX dX1_init_22 kk_b_60 ?_
  refine r1_cI (As := [.int (60 : Int32)]) (st := [kr E t2, kr E l0]) hX hY dX1_init_24 kl_X6_init w_ml_X1_11 w_im_X6_init rfl (by decide) rfl (Nat.le_of_ble_eq_true rfl) rfl hc hs h (fun G1 σ1 c1 s1 h => wX6_init h) ?_
  clear h hc hs; intro G σ cc cs c0 s0 hc hs h
  refine r1_sR hX hY dX1_init_27 kf_X1_20 ⟨_, _, rfl⟩ rfl (by intro q hq; cases hq; exact ⟨_, tyX1_ok 1 (by decide), Or.inl ⟨_, rfl⟩⟩) hc hs h ?_
  clear h hc hs; intro G σ cc cs c0 s0 hc hs h
  refine r_aload_n hX dX1_init_30 rfl 0 rfl ?_
  refine r1_new (n := 2) hX hY dX1_init_31 kd_dd_X6 ⟨_, rfl⟩ w_cL_X1_9 w_is_X6 w_in_X6 hc hs h ?_
  clear h hc hs; intro t3 G σ cc cs c0 s0 hc hs h
  refine r_dup hX dX1_init_34 rfl ?_
  refine r_bipush hX dX1_init_35 kk_b_60 ?_
  refine r1_cI (As := [.int (60 : Int32)]) (st := [kr E t3, kr E l0]) hX hY dX1_init_37 kl_X6_init w_ml_X1_11 w_im_X6_init rfl (by decide) rfl (Nat.le_of_ble_eq_true rfl) rfl hc hs h (fun G1 σ1 c1 s1 h => wX6_init h) ?_
  clear h hc hs; intro G σ cc cs c0 s0 hc hs h
  refine r1_sR hX hY dX1_init_40 kf_X1_23 ⟨_, _, rfl⟩ rfl (by intro q hq; cases hq; exact ⟨_, tyX1_ok 2 (by decide), Or.inl ⟨_, rfl⟩⟩) hc hs h ?_
  clear h hc hs; intro G σ cc cs c0 s0 hc hs h
  exact r1_vret hX hc hs dX1_init_43 h
def X2_init (l0 : Nat) : kd1 → Option (Unit × kd1) :=
  n1 6 2 fun t1 =>
  sub1 1 60 (X6_init t1 (60 : Int32)) <|
  s1R 2 0 l0 t1 <|
  n1 6 2 fun t2 =>
  sub1 1 60 (X6_init t2 (60 : Int32)) <|
  s1R 2 1 l0 t2 <|
  n1 6 2 fun t3 =>
  sub1 1 60 (X6_init t3 (60 : Int32)) <|
  s1R 2 2 l0 t3 <|
  n1A 13 ((4 : Int32)) fun t4 =>
  t1I t4 ((0 : Int32)) ((100 : Int32)) <|
  t1I t4 ((1 : Int32)) ((100 : Int32)) <|
  t1I t4 ((2 : Int32)) ((100 : Int32)) <|
  t1I t4 ((3 : Int32)) ((100 : Int32)) <|
  s1R 2 3 l0 t4 <|
  s1I 2 4 l0 ((900 : Int32)) <|
  s1I 2 5 l0 ((1 : Int32)) <|
  rt1 ()
set_option maxRecDepth 100000 in
set_option maxHeartbeats 4000000 in
theorem wX2_init {E : kdE} {l0 : Nat} {G : kdS} {σ : kdM} {mc ms : Nat} {G1 : kdS} {σ1 : kdM} {c1 s1 : Nat} (h : X2_init l0 (G, σ, mc, ms) = some ((), (G1, σ1, c1, s1))) : Con1 E yX2_init cX2_init 1 none 2 mc ms [kr E l0] G σ (none, G1, σ1) := by
  refine kd1_head (own := RX2) rfl rfl (by decide +kernel) (Nat.le_of_ble_eq_true rfl) (fun A hX hY hc hs => ?_)
  replace hc : 0 + mc = (kdAR A).cells := by rw [hc, Nat.zero_add]
  replace hs : 0 + ms = (kdAR A).slots := by rw [hs, Nat.zero_add]
  show SWg E A 1 (kd1E E (none, G1, σ1) A) (kdR E G σ) 0 0 0 [(0, kr E l0)] []
  unfold X2_init at h
  refine r_aload_n hX dX2_init_0 rfl 0 rfl ?_
  refine r1_obj hX hY dX2_init_1 w_ml_X2_3 w_im_OI w_cd_OI (by decide) (Nat.le_of_ble_eq_true rfl) ?_
  refine r_aload_n hX dX2_init_4 rfl 0 rfl ?_
  refine r1_new (n := 2) hX hY dX2_init_5 kd_dd_X6 ⟨_, rfl⟩ w_cL_X2_9 w_is_X6 w_in_X6 hc hs h ?_
  clear h hc hs; intro t1 G σ cc cs c0 s0 hc hs h
  refine r_dup hX dX2_init_8 rfl ?_
  refine r_bipush hX dX2_init_9 kk_b_60 ?_
  refine r1_cI (As := [.int (60 : Int32)]) (st := [kr E t1, kr E l0]) hX hY dX2_init_11 kl_X6_init w_ml_X2_11 w_im_X6_init rfl (by decide) rfl (Nat.le_of_ble_eq_true rfl) rfl hc hs h (fun G1 σ1 c1 s1 h => wX6_init h) ?_
  clear h hc hs; intro G σ cc cs c0 s0 hc hs h
  refine r1_sR hX hY dX2_init_14 kf_X2_14 ⟨_, _, rfl⟩ rfl (by intro q hq; cases hq; exact ⟨_, tyX2_ok 0 (by decide), Or.inl ⟨_, rfl⟩⟩) hc hs h ?_
  clear h hc hs; intro G σ cc cs c0 s0 hc hs h
  refine r_aload_n hX dX2_init_17 rfl 0 rfl ?_
  refine r1_new (n := 2) hX hY dX2_init_18 kd_dd_X6 ⟨_, rfl⟩ w_cL_X2_9 w_is_X6 w_in_X6 hc hs h ?_
  clear h hc hs; intro t2 G σ cc cs c0 s0 hc hs h
  refine r_dup hX dX2_init_21 rfl ?_
  refine r_bipush hX dX2_init_22 kk_b_60 ?_
  refine r1_cI (As := [.int (60 : Int32)]) (st := [kr E t2, kr E l0]) hX hY dX2_init_24 kl_X6_init w_ml_X2_11 w_im_X6_init rfl (by decide) rfl (Nat.le_of_ble_eq_true rfl) rfl hc hs h (fun G1 σ1 c1 s1 h => wX6_init h) ?_
  clear h hc hs; intro G σ cc cs c0 s0 hc hs h
  refine r1_sR hX hY dX2_init_27 kf_X2_20 ⟨_, _, rfl⟩ rfl (by intro q hq; cases hq; exact ⟨_, tyX2_ok 1 (by decide), Or.inl ⟨_, rfl⟩⟩) hc hs h ?_
  clear h hc hs; intro G σ cc cs c0 s0 hc hs h
  refine r_aload_n hX dX2_init_30 rfl 0 rfl ?_
  refine r1_new (n := 2) hX hY dX2_init_31 kd_dd_X6 ⟨_, rfl⟩ w_cL_X2_9 w_is_X6 w_in_X6 hc hs h ?_
  clear h hc hs; intro t3 G σ cc cs c0 s0 hc hs h
  refine r_dup hX dX2_init_34 rfl ?_
  refine r_bipush hX dX2_init_35 kk_b_60 ?_
  refine r1_cI (As := [.int (60 : Int32)]) (st := [kr E t3, kr E l0]) hX hY dX2_init_37 kl_X6_init w_ml_X2_11 w_im_X6_init rfl (by decide) rfl (Nat.le_of_ble_eq_true rfl) rfl hc hs h (fun G1 σ1 c1 s1 h => wX6_init h) ?_
  clear h hc hs; intro G σ cc cs c0 s0 hc hs h
  refine r1_sR hX hY dX2_init_40 kf_X2_23 ⟨_, _, rfl⟩ rfl (by intro q hq; cases hq; exact ⟨_, tyX2_ok 2 (by decide), Or.inl ⟨_, rfl⟩⟩) hc hs h ?_
  clear h hc hs; intro G σ cc cs c0 s0 hc hs h
  refine r_aload_n hX dX2_init_43 rfl 0 rfl ?_
  refine r_iconst hX dX2_init_44 kk_i_4 ?_
  refine r1_newa13 hX hY dX2_init_45 w_ac_int hc hs h ?_
  clear h hc hs; intro t4 G σ cc cs c0 s0 hc hs h
  refine r_dup hX dX2_init_47 rfl ?_
  refine r_iconst hX dX2_init_48 kk_i_0 ?_
  refine r_bipush hX dX2_init_49 kk_b_100 ?_
  refine r1_tI hX hY dX2_init_51 hc hs h ?_
  clear h hc hs; intro G σ cc cs c0 s0 hc hs h
  refine r_dup hX dX2_init_52 rfl ?_
  refine r_iconst hX dX2_init_53 kk_i_1 ?_
  refine r_bipush hX dX2_init_54 kk_b_100 ?_
  refine r1_tI hX hY dX2_init_56 hc hs h ?_
  clear h hc hs; intro G σ cc cs c0 s0 hc hs h
  refine r_dup hX dX2_init_57 rfl ?_
  refine r_iconst hX dX2_init_58 kk_i_2 ?_
  refine r_bipush hX dX2_init_59 kk_b_100 ?_
  refine r1_tI hX hY dX2_init_61 hc hs h ?_
  clear h hc hs; intro G σ cc cs c0 s0 hc hs h
  refine r_dup hX dX2_init_62 rfl ?_
  refine r_iconst hX dX2_init_63 kk_i_3 ?_
  refine r_bipush hX dX2_init_64 kk_b_100 ?_
  refine r1_tI hX hY dX2_init_66 hc hs h ?_
  clear h hc hs; intro G σ cc cs c0 s0 hc hs h
  refine r1_sR hX hY dX2_init_67 kf_X2_26 ⟨_, _, rfl⟩ rfl (by intro q hq; cases hq; exact ⟨_, tyX2_ok 3 (by decide), Or.inr ⟨_, rfl⟩⟩) hc hs h ?_
  clear h hc hs; intro G σ cc cs c0 s0 hc hs h
  refine r_aload_n hX dX2_init_70 rfl 0 rfl ?_
  refine r_sipush hX dX2_init_71 kk_s_900 ?_
  refine r1_sI hX hY dX2_init_74 kf_X2_30 ⟨_, _, rfl⟩ rfl (by intro q hq; cases hq; rfl) hc hs h ?_
  clear h hc hs; intro G σ cc cs c0 s0 hc hs h
  refine r_aload_n hX dX2_init_77 rfl 0 rfl ?_
  refine r_iconst hX dX2_init_78 kk_i_1 ?_
  refine r1_sI hX hY dX2_init_79 kf_X2_34 ⟨_, _, rfl⟩ rfl (by intro q hq; cases hq; rfl) hc hs h ?_
  clear h hc hs; intro G σ cc cs c0 s0 hc hs h
  exact r1_vret hX hc hs dX2_init_82 h
def X3_init (l0 : Nat) : kd1 → Option (Unit × kd1) :=
  n1A 13 ((7 : Int32)) fun t1 =>
  s1R 3 1 l0 t1 <|
  n1A 13 ((7 : Int32)) fun t2 =>
  s1R 3 2 l0 t2 <|
  n1A 13 ((7 : Int32)) fun t3 =>
  s1R 3 3 l0 t3 <|
  n1M 18 13 ((7 : Int32)) ((7 : Int32)) fun t4 =>
  s1R 3 4 l0 t4 <|
  s1I 3 5 l0 ((5 : Int32)) <|
  n1A 13 ((7 : Int32)) fun t5 =>
  s1R 3 6 l0 t5 <|
  kcv1 3 l0 (fun G => X3_startAnew G l0 (4 : Int32)) fun t6 =>
  rt1 ()
set_option maxRecDepth 100000 in
set_option maxHeartbeats 4000000 in
theorem wX3_init {E : kdE} {l0 : Nat} {G : kdS} {σ : kdM} {mc ms : Nat} {G1 : kdS} {σ1 : kdM} {c1 s1 : Nat} (h : X3_init l0 (G, σ, mc, ms) = some ((), (G1, σ1, c1, s1))) : Con1 E yX3_init cX3_init 1 none 1 mc ms [kr E l0] G σ (none, G1, σ1) := by
  refine kd1_head (own := RX3) rfl rfl (by decide +kernel) (Nat.le_of_ble_eq_true rfl) (fun A hX hY hc hs => ?_)
  replace hc : 0 + mc = (kdAR A).cells := by rw [hc, Nat.zero_add]
  replace hs : 0 + ms = (kdAR A).slots := by rw [hs, Nat.zero_add]
  show SWg E A 1 (kd1E E (none, G1, σ1) A) (kdR E G σ) 0 0 0 [(0, kr E l0)] []
  unfold X3_init at h
  refine r_aload_n hX dX3_init_0 rfl 0 rfl ?_
  refine r1_obj hX hY dX3_init_1 w_ml_X3_3 w_im_OI w_cd_OI (by decide) (Nat.le_of_ble_eq_true rfl) ?_
  refine r_aload_n hX dX3_init_4 rfl 0 rfl ?_
  refine r_bipush hX dX3_init_5 kk_b_7 ?_
  refine r1_newa13 hX hY dX3_init_7 w_ac_int hc hs h ?_
  clear h hc hs; intro t1 G σ cc cs c0 s0 hc hs h
  refine r1_sR hX hY dX3_init_9 kf_X3_9 ⟨_, _, rfl⟩ rfl (by intro q hq; cases hq; exact ⟨_, tyX3_ok 1 (by decide), Or.inr ⟨_, rfl⟩⟩) hc hs h ?_
  clear h hc hs; intro G σ cc cs c0 s0 hc hs h
  refine r_aload_n hX dX3_init_12 rfl 0 rfl ?_
  refine r_bipush hX dX3_init_13 kk_b_7 ?_
  refine r1_newa13 hX hY dX3_init_15 w_ac_int hc hs h ?_
  clear h hc hs; intro t2 G σ cc cs c0 s0 hc hs h
  refine r1_sR hX hY dX3_init_17 kf_X3_15 ⟨_, _, rfl⟩ rfl (by intro q hq; cases hq; exact ⟨_, tyX3_ok 2 (by decide), Or.inr ⟨_, rfl⟩⟩) hc hs h ?_
  clear h hc hs; intro G σ cc cs c0 s0 hc hs h
  refine r_aload_n hX dX3_init_20 rfl 0 rfl ?_
  refine r_bipush hX dX3_init_21 kk_b_7 ?_
  refine r1_newa13 hX hY dX3_init_23 w_ac_int hc hs h ?_
  clear h hc hs; intro t3 G σ cc cs c0 s0 hc hs h
  refine r1_sR hX hY dX3_init_25 kf_X3_18 ⟨_, _, rfl⟩ rfl (by intro q hq; cases hq; exact ⟨_, tyX3_ok 3 (by decide), Or.inr ⟨_, rfl⟩⟩) hc hs h ?_
  clear h hc hs; intro G σ cc cs c0 s0 hc hs h
  refine r_aload_n hX dX3_init_28 rfl 0 rfl ?_
  refine r_bipush hX dX3_init_29 kk_b_7 ?_
  refine r_bipush hX dX3_init_31 kk_b_7 ?_
  refine r1_m18 hX hY dX3_init_33 w_cL_X3_21 w_ac_int hc hs h ?_
  clear h hc hs; intro t4 G σ cc cs c0 s0 hc hs h
  refine r1_sR hX hY dX3_init_37 kf_X3_23 ⟨_, _, rfl⟩ rfl (by intro q hq; cases hq; exact ⟨_, tyX3_ok 4 (by decide), Or.inr ⟨_, rfl⟩⟩) hc hs h ?_
  clear h hc hs; intro G σ cc cs c0 s0 hc hs h
  refine r_aload_n hX dX3_init_40 rfl 0 rfl ?_
  refine r_iconst hX dX3_init_41 kk_i_5 ?_
  refine r1_sI hX hY dX3_init_42 kf_X3_26 ⟨_, _, rfl⟩ rfl (by intro q hq; cases hq; rfl) hc hs h ?_
  clear h hc hs; intro G σ cc cs c0 s0 hc hs h
  refine r_aload_n hX dX3_init_45 rfl 0 rfl ?_
  refine r_bipush hX dX3_init_46 kk_b_7 ?_
  refine r1_newa13 hX hY dX3_init_48 w_ac_int hc hs h ?_
  clear h hc hs; intro t5 G σ cc cs c0 s0 hc hs h
  refine r1_sR hX hY dX3_init_50 kf_X3_30 ⟨_, _, rfl⟩ rfl (by intro q hq; cases hq; exact ⟨_, tyX3_ok 6 (by decide), Or.inr ⟨_, rfl⟩⟩) hc hs h ?_
  clear h hc hs; intro G σ cc cs c0 s0 hc hs h
  refine r_aload_n hX dX3_init_53 rfl 0 rfl ?_
  refine r_iconst hX dX3_init_54 kk_i_4 ?_
  refine r1_cV (As := [.int (4 : Int32)]) (st := []) (enc := fun r => some (.int r)) hX hY dX3_init_55 kl_X3_startAnew w_ml_X3_33 w_im_X3_startAnew w_se_X3_startAnew ⟨_, _, rfl⟩ (by decide) rfl (Nat.le_of_ble_eq_true rfl) rfl hc hs h (fun r σ1 h => wX3_startAnew h) ?_
  clear h hc hs; intro t6 σ cc cs c0 s0 hc hs h
  show SWg E A 1 (kd1E E (none, G1, σ1) A) (kdR E G σ) c0 s0 58 [(0, kr E l0)] [.int t6]
  refine r_pop hX dX3_init_58 rfl ?_
  exact r1_vret hX hc hs dX3_init_59 h
def X4_init (l0 : Nat) : kd1 → Option (Unit × kd1) :=
  n1 6 2 fun t1 =>
  sub1 1 40 (X6_init t1 (40 : Int32)) <|
  s1R 4 0 l0 t1 <|
  n1 6 2 fun t2 =>
  sub1 1 40 (X6_init t2 (40 : Int32)) <|
  s1R 4 1 l0 t2 <|
  n1 6 2 fun t3 =>
  sub1 1 40 (X6_init t3 (40 : Int32)) <|
  s1R 4 2 l0 t3 <|
  n1 6 2 fun t4 =>
  sub1 1 120 (X6_init t4 (120 : Int32)) <|
  s1R 4 3 l0 t4 <|
  rt1 ()
set_option maxRecDepth 100000 in
set_option maxHeartbeats 4000000 in
theorem wX4_init {E : kdE} {l0 : Nat} {G : kdS} {σ : kdM} {mc ms : Nat} {G1 : kdS} {σ1 : kdM} {c1 s1 : Nat} (h : X4_init l0 (G, σ, mc, ms) = some ((), (G1, σ1, c1, s1))) : Con1 E yX4_init cX4_init 1 none 2 mc ms [kr E l0] G σ (none, G1, σ1) := by
  refine kd1_head (own := RX4) rfl rfl (by decide +kernel) (Nat.le_of_ble_eq_true rfl) (fun A hX hY hc hs => ?_)
  replace hc : 0 + mc = (kdAR A).cells := by rw [hc, Nat.zero_add]
  replace hs : 0 + ms = (kdAR A).slots := by rw [hs, Nat.zero_add]
  show SWg E A 1 (kd1E E (none, G1, σ1) A) (kdR E G σ) 0 0 0 [(0, kr E l0)] []
  unfold X4_init at h
  refine r_aload_n hX dX4_init_0 rfl 0 rfl ?_
  refine r1_obj hX hY dX4_init_1 w_ml_X4_3 w_im_OI w_cd_OI (by decide) (Nat.le_of_ble_eq_true rfl) ?_
  refine r_aload_n hX dX4_init_4 rfl 0 rfl ?_
  refine r1_new (n := 2) hX hY dX4_init_5 kd_dd_X6 ⟨_, rfl⟩ w_cL_X4_9 w_is_X6 w_in_X6 hc hs h ?_
  clear h hc hs; intro t1 G σ cc cs c0 s0 hc hs h
  refine r_dup hX dX4_init_8 rfl ?_
  refine r_bipush hX dX4_init_9 kk_b_40 ?_
  refine r1_cI (As := [.int (40 : Int32)]) (st := [kr E t1, kr E l0]) hX hY dX4_init_11 kl_X6_init w_ml_X4_11 w_im_X6_init rfl (by decide) rfl (Nat.le_of_ble_eq_true rfl) rfl hc hs h (fun G1 σ1 c1 s1 h => wX6_init h) ?_
  clear h hc hs; intro G σ cc cs c0 s0 hc hs h
  refine r1_sR hX hY dX4_init_14 kf_X4_14 ⟨_, _, rfl⟩ rfl (by intro q hq; cases hq; exact ⟨_, tyX4_ok 0 (by decide), Or.inl ⟨_, rfl⟩⟩) hc hs h ?_
  clear h hc hs; intro G σ cc cs c0 s0 hc hs h
  refine r_aload_n hX dX4_init_17 rfl 0 rfl ?_
  refine r1_new (n := 2) hX hY dX4_init_18 kd_dd_X6 ⟨_, rfl⟩ w_cL_X4_9 w_is_X6 w_in_X6 hc hs h ?_
  clear h hc hs; intro t2 G σ cc cs c0 s0 hc hs h
  refine r_dup hX dX4_init_21 rfl ?_
  refine r_bipush hX dX4_init_22 kk_b_40 ?_
  refine r1_cI (As := [.int (40 : Int32)]) (st := [kr E t2, kr E l0]) hX hY dX4_init_24 kl_X6_init w_ml_X4_11 w_im_X6_init rfl (by decide) rfl (Nat.le_of_ble_eq_true rfl) rfl hc hs h (fun G1 σ1 c1 s1 h => wX6_init h) ?_
  clear h hc hs; intro G σ cc cs c0 s0 hc hs h
  refine r1_sR hX hY dX4_init_27 kf_X4_20 ⟨_, _, rfl⟩ rfl (by intro q hq; cases hq; exact ⟨_, tyX4_ok 1 (by decide), Or.inl ⟨_, rfl⟩⟩) hc hs h ?_
  clear h hc hs; intro G σ cc cs c0 s0 hc hs h
  refine r_aload_n hX dX4_init_30 rfl 0 rfl ?_
  refine r1_new (n := 2) hX hY dX4_init_31 kd_dd_X6 ⟨_, rfl⟩ w_cL_X4_9 w_is_X6 w_in_X6 hc hs h ?_
  clear h hc hs; intro t3 G σ cc cs c0 s0 hc hs h
  refine r_dup hX dX4_init_34 rfl ?_
  refine r_bipush hX dX4_init_35 kk_b_40 ?_
  refine r1_cI (As := [.int (40 : Int32)]) (st := [kr E t3, kr E l0]) hX hY dX4_init_37 kl_X6_init w_ml_X4_11 w_im_X6_init rfl (by decide) rfl (Nat.le_of_ble_eq_true rfl) rfl hc hs h (fun G1 σ1 c1 s1 h => wX6_init h) ?_
  clear h hc hs; intro G σ cc cs c0 s0 hc hs h
  refine r1_sR hX hY dX4_init_40 kf_X4_23 ⟨_, _, rfl⟩ rfl (by intro q hq; cases hq; exact ⟨_, tyX4_ok 2 (by decide), Or.inl ⟨_, rfl⟩⟩) hc hs h ?_
  clear h hc hs; intro G σ cc cs c0 s0 hc hs h
  refine r_aload_n hX dX4_init_43 rfl 0 rfl ?_
  refine r1_new (n := 2) hX hY dX4_init_44 kd_dd_X6 ⟨_, rfl⟩ w_cL_X4_9 w_is_X6 w_in_X6 hc hs h ?_
  clear h hc hs; intro t4 G σ cc cs c0 s0 hc hs h
  refine r_dup hX dX4_init_47 rfl ?_
  refine r_bipush hX dX4_init_48 kk_b_120 ?_
  refine r1_cI (As := [.int (120 : Int32)]) (st := [kr E t4, kr E l0]) hX hY dX4_init_50 kl_X6_init w_ml_X4_11 w_im_X6_init rfl (by decide) rfl (Nat.le_of_ble_eq_true rfl) rfl hc hs h (fun G1 σ1 c1 s1 h => wX6_init h) ?_
  clear h hc hs; intro G σ cc cs c0 s0 hc hs h
  refine r1_sR hX hY dX4_init_53 kf_X4_26 ⟨_, _, rfl⟩ rfl (by intro q hq; cases hq; exact ⟨_, tyX4_ok 3 (by decide), Or.inl ⟨_, rfl⟩⟩) hc hs h ?_
  clear h hc hs; intro G σ cc cs c0 s0 hc hs h
  exact r1_vret hX hc hs dX4_init_56 h
def X5_init (l0 : Nat) (l1 : Nat) (l2 : Nat) : kd1 → Option (Unit × kd1) :=
  n1A 13 ((340 : Int32)) fun t1 =>
  s1R 5 2 l0 t1 <|
  n1A 13 ((340 : Int32)) fun t2 =>
  s1R 5 3 l0 t2 <|
  n1A 13 ((340 : Int32)) fun t3 =>
  s1R 5 4 l0 t3 <|
  n1A 13 ((340 : Int32)) fun t4 =>
  s1R 5 5 l0 t4 <|
  n1 6 2 fun t5 =>
  sub1 1 4 (X6_init t5 (4 : Int32)) <|
  s1R 5 6 l0 t5 <|
  n1 6 2 fun t6 =>
  sub1 1 4 (X6_init t6 (4 : Int32)) <|
  s1R 5 7 l0 t6 <|
  s1R 5 0 l0 l1 <|
  s1R 5 1 l0 l2 <|
  rt1 ()
set_option maxRecDepth 100000 in
set_option maxHeartbeats 4000000 in
theorem wX5_init {E : kdE} {l0 : Nat} {l1 : Nat} {l2 : Nat} {G : kdS} {σ : kdM} {mc ms : Nat} {G1 : kdS} {σ1 : kdM} {c1 s1 : Nat} (h : X5_init l0 l1 l2 (G, σ, mc, ms) = some ((), (G1, σ1, c1, s1))) : Con1 E yX5_init cX5_init 3 none 2 mc ms [kr E l0, kr E l1, kr E l2] G σ (none, G1, σ1) := by
  refine kd1_head (own := RX5) rfl rfl (by decide +kernel) (Nat.le_of_ble_eq_true rfl) (fun A hX hY hc hs => ?_)
  replace hc : 0 + mc = (kdAR A).cells := by rw [hc, Nat.zero_add]
  replace hs : 0 + ms = (kdAR A).slots := by rw [hs, Nat.zero_add]
  show SWg E A 3 (kd1E E (none, G1, σ1) A) (kdR E G σ) 0 0 0 [(0, kr E l0), (1, kr E l1), (2, kr E l2)] []
  unfold X5_init at h
  refine r_aload_n hX dX5_init_0 rfl 0 rfl ?_
  refine r1_obj hX hY dX5_init_1 w_ml_X5_3 w_im_OI w_cd_OI (by decide) (Nat.le_of_ble_eq_true rfl) ?_
  refine r_aload_n hX dX5_init_4 rfl 0 rfl ?_
  refine r_sipush hX dX5_init_5 kk_s_340 ?_
  refine r1_newa13 hX hY dX5_init_8 w_ac_int hc hs h ?_
  clear h hc hs; intro t1 G σ cc cs c0 s0 hc hs h
  refine r1_sR hX hY dX5_init_10 kf_X5_11 ⟨_, _, rfl⟩ rfl (by intro q hq; cases hq; exact ⟨_, tyX5_ok 2 (by decide), Or.inr ⟨_, rfl⟩⟩) hc hs h ?_
  clear h hc hs; intro G σ cc cs c0 s0 hc hs h
  refine r_aload_n hX dX5_init_13 rfl 0 rfl ?_
  refine r_sipush hX dX5_init_14 kk_s_340 ?_
  refine r1_newa13 hX hY dX5_init_17 w_ac_int hc hs h ?_
  clear h hc hs; intro t2 G σ cc cs c0 s0 hc hs h
  refine r1_sR hX hY dX5_init_19 kf_X5_15 ⟨_, _, rfl⟩ rfl (by intro q hq; cases hq; exact ⟨_, tyX5_ok 3 (by decide), Or.inr ⟨_, rfl⟩⟩) hc hs h ?_
  clear h hc hs; intro G σ cc cs c0 s0 hc hs h
  refine r_aload_n hX dX5_init_22 rfl 0 rfl ?_
  refine r_sipush hX dX5_init_23 kk_s_340 ?_
  refine r1_newa13 hX hY dX5_init_26 w_ac_int hc hs h ?_
  clear h hc hs; intro t3 G σ cc cs c0 s0 hc hs h
  refine r1_sR hX hY dX5_init_28 kf_X5_18 ⟨_, _, rfl⟩ rfl (by intro q hq; cases hq; exact ⟨_, tyX5_ok 4 (by decide), Or.inr ⟨_, rfl⟩⟩) hc hs h ?_
  clear h hc hs; intro G σ cc cs c0 s0 hc hs h
  refine r_aload_n hX dX5_init_31 rfl 0 rfl ?_
  refine r_sipush hX dX5_init_32 kk_s_340 ?_
  refine r1_newa13 hX hY dX5_init_35 w_ac_int hc hs h ?_
  clear h hc hs; intro t4 G σ cc cs c0 s0 hc hs h
  refine r1_sR hX hY dX5_init_37 kf_X5_21 ⟨_, _, rfl⟩ rfl (by intro q hq; cases hq; exact ⟨_, tyX5_ok 5 (by decide), Or.inr ⟨_, rfl⟩⟩) hc hs h ?_
  clear h hc hs; intro G σ cc cs c0 s0 hc hs h
  refine r_aload_n hX dX5_init_40 rfl 0 rfl ?_
  refine r1_new (n := 2) hX hY dX5_init_41 kd_dd_X6 ⟨_, rfl⟩ w_cL_X5_24 w_is_X6 w_in_X6 hc hs h ?_
  clear h hc hs; intro t5 G σ cc cs c0 s0 hc hs h
  refine r_dup hX dX5_init_44 rfl ?_
  refine r_iconst hX dX5_init_45 kk_i_4 ?_
  refine r1_cI (As := [.int (4 : Int32)]) (st := [kr E t5, kr E l0]) hX hY dX5_init_46 kl_X6_init w_ml_X5_26 w_im_X6_init rfl (by decide) rfl (Nat.le_of_ble_eq_true rfl) rfl hc hs h (fun G1 σ1 c1 s1 h => wX6_init h) ?_
  clear h hc hs; intro G σ cc cs c0 s0 hc hs h
  refine r1_sR hX hY dX5_init_49 kf_X5_29 ⟨_, _, rfl⟩ rfl (by intro q hq; cases hq; exact ⟨_, tyX5_ok 6 (by decide), Or.inl ⟨_, rfl⟩⟩) hc hs h ?_
  clear h hc hs; intro G σ cc cs c0 s0 hc hs h
  refine r_aload_n hX dX5_init_52 rfl 0 rfl ?_
  refine r1_new (n := 2) hX hY dX5_init_53 kd_dd_X6 ⟨_, rfl⟩ w_cL_X5_24 w_is_X6 w_in_X6 hc hs h ?_
  clear h hc hs; intro t6 G σ cc cs c0 s0 hc hs h
  refine r_dup hX dX5_init_56 rfl ?_
  refine r_iconst hX dX5_init_57 kk_i_4 ?_
  refine r1_cI (As := [.int (4 : Int32)]) (st := [kr E t6, kr E l0]) hX hY dX5_init_58 kl_X6_init w_ml_X5_26 w_im_X6_init rfl (by decide) rfl (Nat.le_of_ble_eq_true rfl) rfl hc hs h (fun G1 σ1 c1 s1 h => wX6_init h) ?_
  clear h hc hs; intro G σ cc cs c0 s0 hc hs h
  refine r1_sR hX hY dX5_init_61 kf_X5_33 ⟨_, _, rfl⟩ rfl (by intro q hq; cases hq; exact ⟨_, tyX5_ok 7 (by decide), Or.inl ⟨_, rfl⟩⟩) hc hs h ?_
  clear h hc hs; intro G σ cc cs c0 s0 hc hs h
  refine r_aload_n hX dX5_init_64 rfl 0 rfl ?_
  refine r_aload_n hX dX5_init_65 rfl 1 rfl ?_
  refine r1_sR hX hY dX5_init_66 kf_X5_36 ⟨_, _, rfl⟩ rfl (by intro q hq; cases hq; exact ⟨_, tyX5_ok 0 (by decide), Or.inl ⟨_, rfl⟩⟩) hc hs h ?_
  clear h hc hs; intro G σ cc cs c0 s0 hc hs h
  refine r_aload_n hX dX5_init_69 rfl 0 rfl ?_
  refine r_aload_n hX dX5_init_70 rfl 2 rfl ?_
  refine r1_sR hX hY dX5_init_71 kf_X5_40 ⟨_, _, rfl⟩ rfl (by intro q hq; cases hq; exact ⟨_, tyX5_ok 1 (by decide), Or.inl ⟨_, rfl⟩⟩) hc hs h ?_
  clear h hc hs; intro G σ cc cs c0 s0 hc hs h
  exact r1_vret hX hc hs dX5_init_74 h
def X7_init (l0 : Nat) : kd1 → Option (Unit × kd1) :=
  n1A 13 ((6 : Int32)) fun t1 =>
  t1I t1 ((0 : Int32)) ((3 : Int32)) <|
  t1I t1 ((1 : Int32)) ((3 : Int32)) <|
  t1I t1 ((2 : Int32)) ((4 : Int32)) <|
  t1I t1 ((3 : Int32)) ((3 : Int32)) <|
  t1I t1 ((4 : Int32)) ((6 : Int32)) <|
  t1I t1 ((5 : Int32)) ((5 : Int32)) <|
  s1R 7 0 l0 t1 <|
  n1M 18 13 ((17 : Int32)) ((9 : Int32)) fun t2 =>
  s1R 7 1 l0 t2 <|
  rt1 ()
set_option maxRecDepth 100000 in
set_option maxHeartbeats 4000000 in
theorem wX7_init {E : kdE} {l0 : Nat} {G : kdS} {σ : kdM} {mc ms : Nat} {G1 : kdS} {σ1 : kdM} {c1 s1 : Nat} (h : X7_init l0 (G, σ, mc, ms) = some ((), (G1, σ1, c1, s1))) : Con1 E yX7_init cX7_init 1 none 1 mc ms [kr E l0] G σ (none, G1, σ1) := by
  refine kd1_head (own := RX7) rfl rfl (by decide +kernel) (Nat.le_of_ble_eq_true rfl) (fun A hX hY hc hs => ?_)
  replace hc : 0 + mc = (kdAR A).cells := by rw [hc, Nat.zero_add]
  replace hs : 0 + ms = (kdAR A).slots := by rw [hs, Nat.zero_add]
  show SWg E A 1 (kd1E E (none, G1, σ1) A) (kdR E G σ) 0 0 0 [(0, kr E l0)] []
  unfold X7_init at h
  refine r_aload_n hX dX7_init_0 rfl 0 rfl ?_
  refine r1_obj hX hY dX7_init_1 w_ml_X7_3 w_im_OI w_cd_OI (by decide) (Nat.le_of_ble_eq_true rfl) ?_
  refine r_aload_n hX dX7_init_4 rfl 0 rfl ?_
  refine r_bipush hX dX7_init_5 kk_b_6 ?_
  refine r1_newa13 hX hY dX7_init_7 w_ac_int hc hs h ?_
  clear h hc hs; intro t1 G σ cc cs c0 s0 hc hs h
  refine r_dup hX dX7_init_9 rfl ?_
  refine r_iconst hX dX7_init_10 kk_i_0 ?_
  refine r_iconst hX dX7_init_11 kk_i_3 ?_
  refine r1_tI hX hY dX7_init_12 hc hs h ?_
  clear h hc hs; intro G σ cc cs c0 s0 hc hs h
  refine r_dup hX dX7_init_13 rfl ?_
  refine r_iconst hX dX7_init_14 kk_i_1 ?_
  refine r_iconst hX dX7_init_15 kk_i_3 ?_
  refine r1_tI hX hY dX7_init_16 hc hs h ?_
  clear h hc hs; intro G σ cc cs c0 s0 hc hs h
  refine r_dup hX dX7_init_17 rfl ?_
  refine r_iconst hX dX7_init_18 kk_i_2 ?_
  refine r_iconst hX dX7_init_19 kk_i_4 ?_
  refine r1_tI hX hY dX7_init_20 hc hs h ?_
  clear h hc hs; intro G σ cc cs c0 s0 hc hs h
  refine r_dup hX dX7_init_21 rfl ?_
  refine r_iconst hX dX7_init_22 kk_i_3 ?_
  refine r_iconst hX dX7_init_23 kk_i_3 ?_
  refine r1_tI hX hY dX7_init_24 hc hs h ?_
  clear h hc hs; intro G σ cc cs c0 s0 hc hs h
  refine r_dup hX dX7_init_25 rfl ?_
  refine r_iconst hX dX7_init_26 kk_i_4 ?_
  refine r_bipush hX dX7_init_27 kk_b_6 ?_
  refine r1_tI hX hY dX7_init_29 hc hs h ?_
  clear h hc hs; intro G σ cc cs c0 s0 hc hs h
  refine r_dup hX dX7_init_30 rfl ?_
  refine r_iconst hX dX7_init_31 kk_i_5 ?_
  refine r_iconst hX dX7_init_32 kk_i_5 ?_
  refine r1_tI hX hY dX7_init_33 hc hs h ?_
  clear h hc hs; intro G σ cc cs c0 s0 hc hs h
  refine r1_sR hX hY dX7_init_34 kf_X7_9 ⟨_, _, rfl⟩ rfl (by intro q hq; cases hq; exact ⟨_, tyX7_ok 0 (by decide), Or.inr ⟨_, rfl⟩⟩) hc hs h ?_
  clear h hc hs; intro G σ cc cs c0 s0 hc hs h
  refine r_aload_n hX dX7_init_37 rfl 0 rfl ?_
  refine r_bipush hX dX7_init_38 kk_b_17 ?_
  refine r_bipush hX dX7_init_40 kk_b_9 ?_
  refine r1_m18 hX hY dX7_init_42 w_cL_X7_15 w_ac_int hc hs h ?_
  clear h hc hs; intro t2 G σ cc cs c0 s0 hc hs h
  refine r1_sR hX hY dX7_init_46 kf_X7_17 ⟨_, _, rfl⟩ rfl (by intro q hq; cases hq; exact ⟨_, tyX7_ok 1 (by decide), Or.inr ⟨_, rfl⟩⟩) hc hs h ?_
  clear h hc hs; intro G σ cc cs c0 s0 hc hs h
  exact r1_vret hX hc hs dX7_init_49 h
def X8_init_79B (k79 : Nat → Int32 → kd1 → Option (Unit × kd1)) (l0 : Nat) (l1 : Int32) : kd1 → Option (Unit × kd1) :=
  cnd1 ((24 : Int32) ≤ l1)
    (rt1 ())
    (g1R 8 0 l0 fun t1 =>
    n1 6 2 fun t2 =>
    sub1 1 4 (X6_init t2 (4 : Int32)) <|
    t1R 16 6 t1 (l1) t2 <|
    g1R 8 1 l0 fun t3 =>
    n1 6 2 fun t4 =>
    sub1 1 3 (X6_init t4 (3 : Int32)) <|
    t1R 16 6 t3 (l1) t4 <|
    lt1 (l1 + Int32.ofInt 1) fun t5 =>
    k79 l0 t5)
set_option maxRecDepth 100000 in
set_option maxHeartbeats 4000000 in
theorem wX8_init_79B {E : kdE} {A : kdA} {G1 : kdS} {σ1 : kdM} {c1 s1 : Nat} (hX : kdX E A cX8_init 2 RX8 none 2) (hY : kdY A) (k79 : Nat → Int32 → kd1 → Option (Unit × kd1)) (hk79 : ∀ (l0 : Nat) (l1 : Int32) (G : kdS) (σ : kdM) (cc cs c0 s0 : Nat), c0 + cc = (kdAR A).cells → s0 + cs = (kdAR A).slots → k79 l0 l1 (G, σ, cc, cs) = some ((), (G1, σ1, c1, s1)) → SWg E A 2 (kd1E E (none, G1, σ1) A) (kdR E G σ) c0 s0 79 [(0, kr E l0), (1, .int l1)] []) {l0 : Nat} {l1 : Int32} {G : kdS} {σ : kdM} {cc cs c0 s0 : Nat} (hc : c0 + cc = (kdAR A).cells) (hs : s0 + cs = (kdAR A).slots) (h : X8_init_79B k79 l0 l1 (G, σ, cc, cs) = some ((), (G1, σ1, c1, s1))) : SWg E A 2 (kd1E E (none, G1, σ1) A) (kdR E G σ) c0 s0 79 [(0, kr E l0), (1, .int l1)] [] := by
  unfold X8_init_79B at h
  refine r_iload_n hX dX8_init_79 rfl 1 rfl ?_
  refine r_bipush hX dX8_init_80 kk_b_24 ?_
  refine r1_icmp_ge (tgt := 119) hX dX8_init_82 (by decide) h ?_ ?_
  · clear h; intro h
    exact r1_vret hX hc hs dX8_init_119 h
  · clear h; intro h
    refine r_aload_n hX dX8_init_85 rfl 0 rfl ?_
    refine r1_gR hX hY dX8_init_86 kf_X8_11 rfl hc hs h ?_
    clear h hc hs; intro t1 G σ cc cs c0 s0 hc hs h
    refine r_iload_n hX dX8_init_89 rfl 1 rfl ?_
    refine r1_new (n := 2) hX hY dX8_init_90 kd_dd_X6 ⟨_, rfl⟩ w_cL_X8_9 w_is_X6 w_in_X6 hc hs h ?_
    clear h hc hs; intro t2 G σ cc cs c0 s0 hc hs h
    refine r_dup hX dX8_init_93 rfl ?_
    refine r_iconst hX dX8_init_94 kk_i_4 ?_
    refine r1_cI (As := [.int (4 : Int32)]) (st := [kr E t2, .int l1, kr E t1]) hX hY dX8_init_95 kl_X6_init w_ml_X8_20 w_im_X6_init rfl (by decide) rfl (Nat.le_of_ble_eq_true rfl) rfl hc hs h (fun G1 σ1 c1 s1 h => wX6_init h) ?_
    clear h hc hs; intro G σ cc cs c0 s0 hc hs h
    refine r1_tR16 hX hY dX8_init_98 hc hs h ?_
    clear h hc hs; intro G σ cc cs c0 s0 hc hs h
    refine r_aload_n hX dX8_init_99 rfl 0 rfl ?_
    refine r1_gR hX hY dX8_init_100 kf_X8_17 rfl hc hs h ?_
    clear h hc hs; intro t3 G σ cc cs c0 s0 hc hs h
    refine r_iload_n hX dX8_init_103 rfl 1 rfl ?_
    refine r1_new (n := 2) hX hY dX8_init_104 kd_dd_X6 ⟨_, rfl⟩ w_cL_X8_9 w_is_X6 w_in_X6 hc hs h ?_
    clear h hc hs; intro t4 G σ cc cs c0 s0 hc hs h
    refine r_dup hX dX8_init_107 rfl ?_
    refine r_iconst hX dX8_init_108 kk_i_3 ?_
    refine r1_cI (As := [.int (3 : Int32)]) (st := [kr E t4, .int l1, kr E t3]) hX hY dX8_init_109 kl_X6_init w_ml_X8_20 w_im_X6_init rfl (by decide) rfl (Nat.le_of_ble_eq_true rfl) rfl hc hs h (fun G1 σ1 c1 s1 h => wX6_init h) ?_
    clear h hc hs; intro G σ cc cs c0 s0 hc hs h
    refine r1_tR16 hX hY dX8_init_112 hc hs h ?_
    clear h hc hs; intro G σ cc cs c0 s0 hc hs h
    refine r1_iincL (L2 := fun t5 => [(1, .int t5), (0, kr E l0)]) hX dX8_init_113 h 1 rfl (by decide) (fun _ => rfl) ?_
    clear h; intro t5 h
    refine r_goto (tgt := 79) hX dX8_init_116 (by decide) ?_
    refine r_sub [1, 0] rfl ?_
    exact hk79 _ _ _ _ _ _ _ _ hc hs h
def X8_init_79 : Nat → Int32 → kd1 → Option (Unit × kd1) := lp (fun _ _ _ => none) (X8_init_79B) NN
theorem wX8_init_79 {E : kdE} {A : kdA} {G1 : kdS} {σ1 : kdM} {c1 s1 : Nat} (hX : kdX E A cX8_init 2 RX8 none 2) (hY : kdY A) : ∀ (l0 : Nat) (l1 : Int32) (G : kdS) (σ : kdM) (cc cs c0 s0 : Nat), c0 + cc = (kdAR A).cells → s0 + cs = (kdAR A).slots → X8_init_79 l0 l1 (G, σ, cc, cs) = some ((), (G1, σ1, c1, s1)) → SWg E A 2 (kd1E E (none, G1, σ1) A) (kdR E G σ) c0 s0 79 [(0, kr E l0), (1, .int l1)] [] :=
  lp_ind (Q := fun f => ∀ (l0 : Nat) (l1 : Int32) (G : kdS) (σ : kdM) (cc cs c0 s0 : Nat), c0 + cc = (kdAR A).cells → s0 + cs = (kdAR A).slots → f l0 l1 (G, σ, cc, cs) = some ((), (G1, σ1, c1, s1)) → SWg E A 2 (kd1E E (none, G1, σ1) A) (kdR E G σ) c0 s0 79 [(0, kr E l0), (1, .int l1)] []) (by intros; contradiction) (fun k hk l0 l1 G σ cc cs c0 s0 hc hs h => wX8_init_79B hX hY k hk hc hs h) NN
def X8_init (l0 : Nat) : kd1 → Option (Unit × kd1) :=
  n1A 16 ((24 : Int32)) fun t1 =>
  s1R 8 0 l0 t1 <|
  n1A 16 ((24 : Int32)) fun t2 =>
  s1R 8 1 l0 t2 <|
  n1 6 2 fun t3 =>
  sub1 1 12 (X6_init t3 (12 : Int32)) <|
  s1R 8 3 l0 t3 <|
  n1 6 2 fun t4 =>
  sub1 1 12 (X6_init t4 (12 : Int32)) <|
  s1R 8 4 l0 t4 <|
  n1 6 2 fun t5 =>
  sub1 1 12 (X6_init t5 (12 : Int32)) <|
  s1R 8 5 l0 t5 <|
  n1A 15 ((61 : Int32)) fun t6 =>
  s1R 8 6 l0 t6 <|
  n1A 15 ((61 : Int32)) fun t7 =>
  s1R 8 7 l0 t7 <|
  X8_init_79 l0 (0 : Int32)
set_option maxRecDepth 100000 in
set_option maxHeartbeats 4000000 in
theorem wX8_init {E : kdE} {l0 : Nat} {G : kdS} {σ : kdM} {mc ms : Nat} {G1 : kdS} {σ1 : kdM} {c1 s1 : Nat} (h : X8_init l0 (G, σ, mc, ms) = some ((), (G1, σ1, c1, s1))) : Con1 E yX8_init cX8_init 2 none 2 mc ms [kr E l0] G σ (none, G1, σ1) := by
  refine kd1_head (own := RX8) rfl rfl (by decide +kernel) (Nat.le_of_ble_eq_true rfl) (fun A hX hY hc hs => ?_)
  replace hc : 0 + mc = (kdAR A).cells := by rw [hc, Nat.zero_add]
  replace hs : 0 + ms = (kdAR A).slots := by rw [hs, Nat.zero_add]
  show SWg E A 2 (kd1E E (none, G1, σ1) A) (kdR E G σ) 0 0 0 [(0, kr E l0)] []
  unfold X8_init at h
  refine r_aload_n hX dX8_init_0 rfl 0 rfl ?_
  refine r1_obj hX hY dX8_init_1 w_ml_X8_3 w_im_OI w_cd_OI (by decide) (Nat.le_of_ble_eq_true rfl) ?_
  refine r_aload_n hX dX8_init_4 rfl 0 rfl ?_
  refine r_bipush hX dX8_init_5 kk_b_24 ?_
  refine r1_newq16 hX hY dX8_init_7 w_cL_X8_9 hc hs h ?_
  clear h hc hs; intro t1 G σ cc cs c0 s0 hc hs h
  refine r1_sR hX hY dX8_init_10 kf_X8_11 ⟨_, _, rfl⟩ rfl (by intro q hq; cases hq; exact ⟨_, tyX8_ok 0 (by decide), Or.inr ⟨_, rfl⟩⟩) hc hs h ?_
  clear h hc hs; intro G σ cc cs c0 s0 hc hs h
  refine r_aload_n hX dX8_init_13 rfl 0 rfl ?_
  refine r_bipush hX dX8_init_14 kk_b_24 ?_
  refine r1_newq16 hX hY dX8_init_16 w_cL_X8_9 hc hs h ?_
  clear h hc hs; intro t2 G σ cc cs c0 s0 hc hs h
  refine r1_sR hX hY dX8_init_19 kf_X8_17 ⟨_, _, rfl⟩ rfl (by intro q hq; cases hq; exact ⟨_, tyX8_ok 1 (by decide), Or.inr ⟨_, rfl⟩⟩) hc hs h ?_
  clear h hc hs; intro G σ cc cs c0 s0 hc hs h
  refine r_aload_n hX dX8_init_22 rfl 0 rfl ?_
  refine r1_new (n := 2) hX hY dX8_init_23 kd_dd_X6 ⟨_, rfl⟩ w_cL_X8_9 w_is_X6 w_in_X6 hc hs h ?_
  clear h hc hs; intro t3 G σ cc cs c0 s0 hc hs h
  refine r_dup hX dX8_init_26 rfl ?_
  refine r_bipush hX dX8_init_27 kk_b_12 ?_
  refine r1_cI (As := [.int (12 : Int32)]) (st := [kr E t3, kr E l0]) hX hY dX8_init_29 kl_X6_init w_ml_X8_20 w_im_X6_init rfl (by decide) rfl (Nat.le_of_ble_eq_true rfl) rfl hc hs h (fun G1 σ1 c1 s1 h => wX6_init h) ?_
  clear h hc hs; intro G σ cc cs c0 s0 hc hs h
  refine r1_sR hX hY dX8_init_32 kf_X8_23 ⟨_, _, rfl⟩ rfl (by intro q hq; cases hq; exact ⟨_, tyX8_ok 3 (by decide), Or.inl ⟨_, rfl⟩⟩) hc hs h ?_
  clear h hc hs; intro G σ cc cs c0 s0 hc hs h
  refine r_aload_n hX dX8_init_35 rfl 0 rfl ?_
  refine r1_new (n := 2) hX hY dX8_init_36 kd_dd_X6 ⟨_, rfl⟩ w_cL_X8_9 w_is_X6 w_in_X6 hc hs h ?_
  clear h hc hs; intro t4 G σ cc cs c0 s0 hc hs h
  refine r_dup hX dX8_init_39 rfl ?_
  refine r_bipush hX dX8_init_40 kk_b_12 ?_
  refine r1_cI (As := [.int (12 : Int32)]) (st := [kr E t4, kr E l0]) hX hY dX8_init_42 kl_X6_init w_ml_X8_20 w_im_X6_init rfl (by decide) rfl (Nat.le_of_ble_eq_true rfl) rfl hc hs h (fun G1 σ1 c1 s1 h => wX6_init h) ?_
  clear h hc hs; intro G σ cc cs c0 s0 hc hs h
  refine r1_sR hX hY dX8_init_45 kf_X8_27 ⟨_, _, rfl⟩ rfl (by intro q hq; cases hq; exact ⟨_, tyX8_ok 4 (by decide), Or.inl ⟨_, rfl⟩⟩) hc hs h ?_
  clear h hc hs; intro G σ cc cs c0 s0 hc hs h
  refine r_aload_n hX dX8_init_48 rfl 0 rfl ?_
  refine r1_new (n := 2) hX hY dX8_init_49 kd_dd_X6 ⟨_, rfl⟩ w_cL_X8_9 w_is_X6 w_in_X6 hc hs h ?_
  clear h hc hs; intro t5 G σ cc cs c0 s0 hc hs h
  refine r_dup hX dX8_init_52 rfl ?_
  refine r_bipush hX dX8_init_53 kk_b_12 ?_
  refine r1_cI (As := [.int (12 : Int32)]) (st := [kr E t5, kr E l0]) hX hY dX8_init_55 kl_X6_init w_ml_X8_20 w_im_X6_init rfl (by decide) rfl (Nat.le_of_ble_eq_true rfl) rfl hc hs h (fun G1 σ1 c1 s1 h => wX6_init h) ?_
  clear h hc hs; intro G σ cc cs c0 s0 hc hs h
  refine r1_sR hX hY dX8_init_58 kf_X8_30 ⟨_, _, rfl⟩ rfl (by intro q hq; cases hq; exact ⟨_, tyX8_ok 5 (by decide), Or.inl ⟨_, rfl⟩⟩) hc hs h ?_
  clear h hc hs; intro G σ cc cs c0 s0 hc hs h
  refine r_aload_n hX dX8_init_61 rfl 0 rfl ?_
  refine r_bipush hX dX8_init_62 kk_b_61 ?_
  refine r1_newa15 hX hY dX8_init_64 w_ac_boolean hc hs h ?_
  clear h hc hs; intro t6 G σ cc cs c0 s0 hc hs h
  refine r1_sR hX hY dX8_init_66 kf_X8_33 ⟨_, _, rfl⟩ rfl (by intro q hq; cases hq; exact ⟨_, tyX8_ok 6 (by decide), Or.inr ⟨_, rfl⟩⟩) hc hs h ?_
  clear h hc hs; intro G σ cc cs c0 s0 hc hs h
  refine r_aload_n hX dX8_init_69 rfl 0 rfl ?_
  refine r_bipush hX dX8_init_70 kk_b_61 ?_
  refine r1_newa15 hX hY dX8_init_72 w_ac_boolean hc hs h ?_
  clear h hc hs; intro t7 G σ cc cs c0 s0 hc hs h
  refine r1_sR hX hY dX8_init_74 kf_X8_37 ⟨_, _, rfl⟩ rfl (by intro q hq; cases hq; exact ⟨_, tyX8_ok 7 (by decide), Or.inr ⟨_, rfl⟩⟩) hc hs h ?_
  clear h hc hs; intro G σ cc cs c0 s0 hc hs h
  refine r_iconst hX dX8_init_77 kk_i_0 ?_
  refine r_istore_n (L2 := [(1, .int (0 : Int32)), (0, kr E l0)]) hX dX8_init_78 rfl (by decide) rfl ?_
  refine r_sub [1, 0] rfl ?_
  exact wX8_init_79 hX hY _ _ _ _ _ _ _ _ hc hs h
def X9_init (l0 : Nat) (l1 : Nat) : kd1 → Option (Unit × kd1) :=
  n1A 13 ((120 : Int32)) fun t1 =>
  s1R 9 1 l0 t1 <|
  n1A 13 ((120 : Int32)) fun t2 =>
  s1R 9 2 l0 t2 <|
  n1A 13 ((1200 : Int32)) fun t3 =>
  s1R 9 3 l0 t3 <|
  n1A 13 ((120 : Int32)) fun t4 =>
  s1R 9 4 l0 t4 <|
  n1A 15 ((120 : Int32)) fun t5 =>
  s1R 9 5 l0 t5 <|
  n1A 13 ((120 : Int32)) fun t6 =>
  s1R 9 6 l0 t6 <|
  n1 6 2 fun t7 =>
  sub1 1 120 (X6_init t7 (120 : Int32)) <|
  s1R 9 7 l0 t7 <|
  n1 6 2 fun t8 =>
  sub1 1 120 (X6_init t8 (120 : Int32)) <|
  s1R 9 8 l0 t8 <|
  s1R 9 0 l0 l1 <|
  rt1 ()
set_option maxRecDepth 100000 in
set_option maxHeartbeats 4000000 in
theorem wX9_init {E : kdE} {l0 : Nat} {l1 : Nat} {G : kdS} {σ : kdM} {mc ms : Nat} {G1 : kdS} {σ1 : kdM} {c1 s1 : Nat} (h : X9_init l0 l1 (G, σ, mc, ms) = some ((), (G1, σ1, c1, s1))) : Con1 E yX9_init cX9_init 2 none 2 mc ms [kr E l0, kr E l1] G σ (none, G1, σ1) := by
  refine kd1_head (own := RX9) rfl rfl (by decide +kernel) (Nat.le_of_ble_eq_true rfl) (fun A hX hY hc hs => ?_)
  replace hc : 0 + mc = (kdAR A).cells := by rw [hc, Nat.zero_add]
  replace hs : 0 + ms = (kdAR A).slots := by rw [hs, Nat.zero_add]
  show SWg E A 2 (kd1E E (none, G1, σ1) A) (kdR E G σ) 0 0 0 [(0, kr E l0), (1, kr E l1)] []
  unfold X9_init at h
  refine r_aload_n hX dX9_init_0 rfl 0 rfl ?_
  refine r1_obj hX hY dX9_init_1 w_ml_X9_3 w_im_OI w_cd_OI (by decide) (Nat.le_of_ble_eq_true rfl) ?_
  refine r_aload_n hX dX9_init_4 rfl 0 rfl ?_
  refine r_bipush hX dX9_init_5 kk_b_120 ?_
  refine r1_newa13 hX hY dX9_init_7 w_ac_int hc hs h ?_
  clear h hc hs; intro t1 G σ cc cs c0 s0 hc hs h
  refine r1_sR hX hY dX9_init_9 kf_X9_9 ⟨_, _, rfl⟩ rfl (by intro q hq; cases hq; exact ⟨_, tyX9_ok 1 (by decide), Or.inr ⟨_, rfl⟩⟩) hc hs h ?_
  clear h hc hs; intro G σ cc cs c0 s0 hc hs h
  refine r_aload_n hX dX9_init_12 rfl 0 rfl ?_
  refine r_bipush hX dX9_init_13 kk_b_120 ?_
  refine r1_newa13 hX hY dX9_init_15 w_ac_int hc hs h ?_
  clear h hc hs; intro t2 G σ cc cs c0 s0 hc hs h
  refine r1_sR hX hY dX9_init_17 kf_X9_15 ⟨_, _, rfl⟩ rfl (by intro q hq; cases hq; exact ⟨_, tyX9_ok 2 (by decide), Or.inr ⟨_, rfl⟩⟩) hc hs h ?_
  clear h hc hs; intro G σ cc cs c0 s0 hc hs h
  refine r_aload_n hX dX9_init_20 rfl 0 rfl ?_
  refine r_sipush hX dX9_init_21 kk_s_1200 ?_
  refine r1_newa13 hX hY dX9_init_24 w_ac_int hc hs h ?_
  clear h hc hs; intro t3 G σ cc cs c0 s0 hc hs h
  refine r1_sR hX hY dX9_init_26 kf_X9_18 ⟨_, _, rfl⟩ rfl (by intro q hq; cases hq; exact ⟨_, tyX9_ok 3 (by decide), Or.inr ⟨_, rfl⟩⟩) hc hs h ?_
  clear h hc hs; intro G σ cc cs c0 s0 hc hs h
  refine r_aload_n hX dX9_init_29 rfl 0 rfl ?_
  refine r_bipush hX dX9_init_30 kk_b_120 ?_
  refine r1_newa13 hX hY dX9_init_32 w_ac_int hc hs h ?_
  clear h hc hs; intro t4 G σ cc cs c0 s0 hc hs h
  refine r1_sR hX hY dX9_init_34 kf_X9_21 ⟨_, _, rfl⟩ rfl (by intro q hq; cases hq; exact ⟨_, tyX9_ok 4 (by decide), Or.inr ⟨_, rfl⟩⟩) hc hs h ?_
  clear h hc hs; intro G σ cc cs c0 s0 hc hs h
  refine r_aload_n hX dX9_init_37 rfl 0 rfl ?_
  refine r_bipush hX dX9_init_38 kk_b_120 ?_
  refine r1_newa15 hX hY dX9_init_40 w_ac_boolean hc hs h ?_
  clear h hc hs; intro t5 G σ cc cs c0 s0 hc hs h
  refine r1_sR hX hY dX9_init_42 kf_X9_24 ⟨_, _, rfl⟩ rfl (by intro q hq; cases hq; exact ⟨_, tyX9_ok 5 (by decide), Or.inr ⟨_, rfl⟩⟩) hc hs h ?_
  clear h hc hs; intro G σ cc cs c0 s0 hc hs h
  refine r_aload_n hX dX9_init_45 rfl 0 rfl ?_
  refine r_bipush hX dX9_init_46 kk_b_120 ?_
  refine r1_newa13 hX hY dX9_init_48 w_ac_int hc hs h ?_
  clear h hc hs; intro t6 G σ cc cs c0 s0 hc hs h
  refine r1_sR hX hY dX9_init_50 kf_X9_28 ⟨_, _, rfl⟩ rfl (by intro q hq; cases hq; exact ⟨_, tyX9_ok 6 (by decide), Or.inr ⟨_, rfl⟩⟩) hc hs h ?_
  clear h hc hs; intro G σ cc cs c0 s0 hc hs h
  refine r_aload_n hX dX9_init_53 rfl 0 rfl ?_
  refine r1_new (n := 2) hX hY dX9_init_54 kd_dd_X6 ⟨_, rfl⟩ w_cL_X9_31 w_is_X6 w_in_X6 hc hs h ?_
  clear h hc hs; intro t7 G σ cc cs c0 s0 hc hs h
  refine r_dup hX dX9_init_57 rfl ?_
  refine r_bipush hX dX9_init_58 kk_b_120 ?_
  refine r1_cI (As := [.int (120 : Int32)]) (st := [kr E t7, kr E l0]) hX hY dX9_init_60 kl_X6_init w_ml_X9_33 w_im_X6_init rfl (by decide) rfl (Nat.le_of_ble_eq_true rfl) rfl hc hs h (fun G1 σ1 c1 s1 h => wX6_init h) ?_
  clear h hc hs; intro G σ cc cs c0 s0 hc hs h
  refine r1_sR hX hY dX9_init_63 kf_X9_36 ⟨_, _, rfl⟩ rfl (by intro q hq; cases hq; exact ⟨_, tyX9_ok 7 (by decide), Or.inl ⟨_, rfl⟩⟩) hc hs h ?_
  clear h hc hs; intro G σ cc cs c0 s0 hc hs h
  refine r_aload_n hX dX9_init_66 rfl 0 rfl ?_
  refine r1_new (n := 2) hX hY dX9_init_67 kd_dd_X6 ⟨_, rfl⟩ w_cL_X9_31 w_is_X6 w_in_X6 hc hs h ?_
  clear h hc hs; intro t8 G σ cc cs c0 s0 hc hs h
  refine r_dup hX dX9_init_70 rfl ?_
  refine r_bipush hX dX9_init_71 kk_b_120 ?_
  refine r1_cI (As := [.int (120 : Int32)]) (st := [kr E t8, kr E l0]) hX hY dX9_init_73 kl_X6_init w_ml_X9_33 w_im_X6_init rfl (by decide) rfl (Nat.le_of_ble_eq_true rfl) rfl hc hs h (fun G1 σ1 c1 s1 h => wX6_init h) ?_
  clear h hc hs; intro G σ cc cs c0 s0 hc hs h
  refine r1_sR hX hY dX9_init_76 kf_X9_40 ⟨_, _, rfl⟩ rfl (by intro q hq; cases hq; exact ⟨_, tyX9_ok 8 (by decide), Or.inl ⟨_, rfl⟩⟩) hc hs h ?_
  clear h hc hs; intro G σ cc cs c0 s0 hc hs h
  refine r_aload_n hX dX9_init_79 rfl 0 rfl ?_
  refine r_aload_n hX dX9_init_80 rfl 1 rfl ?_
  refine r1_sR hX hY dX9_init_81 kf_X9_43 ⟨_, _, rfl⟩ rfl (by intro q hq; cases hq; exact ⟨_, tyX9_ok 0 (by decide), Or.inl ⟨_, rfl⟩⟩) hc hs h ?_
  clear h hc hs; intro G σ cc cs c0 s0 hc hs h
  exact r1_vret hX hc hs dX9_init_84 h
def X10_init_54B (k54 : Nat → Int32 → kd1 → Option (Unit × kd1)) (l0 : Nat) (l1 : Int32) : kd1 → Option (Unit × kd1) :=
  cnd1 ((60 : Int32) ≤ l1)
    (rt1 ())
    (g1R 10 3 l0 fun t1 =>
    n1 6 2 fun t2 =>
    sub1 1 8 (X6_init t2 (8 : Int32)) <|
    t1R 16 6 t1 (l1) t2 <|
    lt1 (l1 + Int32.ofInt 1) fun t3 =>
    k54 l0 t3)
set_option maxRecDepth 100000 in
set_option maxHeartbeats 4000000 in
theorem wX10_init_54B {E : kdE} {A : kdA} {G1 : kdS} {σ1 : kdM} {c1 s1 : Nat} (hX : kdX E A cX10_init 2 RX10 none 2) (hY : kdY A) (k54 : Nat → Int32 → kd1 → Option (Unit × kd1)) (hk54 : ∀ (l0 : Nat) (l1 : Int32) (G : kdS) (σ : kdM) (cc cs c0 s0 : Nat), c0 + cc = (kdAR A).cells → s0 + cs = (kdAR A).slots → k54 l0 l1 (G, σ, cc, cs) = some ((), (G1, σ1, c1, s1)) → SWg E A 2 (kd1E E (none, G1, σ1) A) (kdR E G σ) c0 s0 54 [(0, kr E l0), (1, .int l1)] []) {l0 : Nat} {l1 : Int32} {G : kdS} {σ : kdM} {cc cs c0 s0 : Nat} (hc : c0 + cc = (kdAR A).cells) (hs : s0 + cs = (kdAR A).slots) (h : X10_init_54B k54 l0 l1 (G, σ, cc, cs) = some ((), (G1, σ1, c1, s1))) : SWg E A 2 (kd1E E (none, G1, σ1) A) (kdR E G σ) c0 s0 54 [(0, kr E l0), (1, .int l1)] [] := by
  unfold X10_init_54B at h
  refine r_iload_n hX dX10_init_54 rfl 1 rfl ?_
  refine r_bipush hX dX10_init_55 kk_b_60 ?_
  refine r1_icmp_ge (tgt := 81) hX dX10_init_57 (by decide) h ?_ ?_
  · clear h; intro h
    exact r1_vret hX hc hs dX10_init_81 h
  · clear h; intro h
    refine r_aload_n hX dX10_init_60 rfl 0 rfl ?_
    refine r1_gR hX hY dX10_init_61 kf_X10_26 rfl hc hs h ?_
    clear h hc hs; intro t1 G σ cc cs c0 s0 hc hs h
    refine r_iload_n hX dX10_init_64 rfl 1 rfl ?_
    refine r1_new (n := 2) hX hY dX10_init_65 kd_dd_X6 ⟨_, rfl⟩ w_cL_X10_9 w_is_X6 w_in_X6 hc hs h ?_
    clear h hc hs; intro t2 G σ cc cs c0 s0 hc hs h
    refine r_dup hX dX10_init_68 rfl ?_
    refine r_bipush hX dX10_init_69 kk_b_8 ?_
    refine r1_cI (As := [.int (8 : Int32)]) (st := [kr E t2, .int l1, kr E t1]) hX hY dX10_init_71 kl_X6_init w_ml_X10_11 w_im_X6_init rfl (by decide) rfl (Nat.le_of_ble_eq_true rfl) rfl hc hs h (fun G1 σ1 c1 s1 h => wX6_init h) ?_
    clear h hc hs; intro G σ cc cs c0 s0 hc hs h
    refine r1_tR16 hX hY dX10_init_74 hc hs h ?_
    clear h hc hs; intro G σ cc cs c0 s0 hc hs h
    refine r1_iincL (L2 := fun t3 => [(1, .int t3), (0, kr E l0)]) hX dX10_init_75 h 1 rfl (by decide) (fun _ => rfl) ?_
    clear h; intro t3 h
    refine r_goto (tgt := 54) hX dX10_init_78 (by decide) ?_
    refine r_sub [1, 0] rfl ?_
    exact hk54 _ _ _ _ _ _ _ _ hc hs h
def X10_init_54 : Nat → Int32 → kd1 → Option (Unit × kd1) := lp (fun _ _ _ => none) (X10_init_54B) NN
theorem wX10_init_54 {E : kdE} {A : kdA} {G1 : kdS} {σ1 : kdM} {c1 s1 : Nat} (hX : kdX E A cX10_init 2 RX10 none 2) (hY : kdY A) : ∀ (l0 : Nat) (l1 : Int32) (G : kdS) (σ : kdM) (cc cs c0 s0 : Nat), c0 + cc = (kdAR A).cells → s0 + cs = (kdAR A).slots → X10_init_54 l0 l1 (G, σ, cc, cs) = some ((), (G1, σ1, c1, s1)) → SWg E A 2 (kd1E E (none, G1, σ1) A) (kdR E G σ) c0 s0 54 [(0, kr E l0), (1, .int l1)] [] :=
  lp_ind (Q := fun f => ∀ (l0 : Nat) (l1 : Int32) (G : kdS) (σ : kdM) (cc cs c0 s0 : Nat), c0 + cc = (kdAR A).cells → s0 + cs = (kdAR A).slots → f l0 l1 (G, σ, cc, cs) = some ((), (G1, σ1, c1, s1)) → SWg E A 2 (kd1E E (none, G1, σ1) A) (kdR E G σ) c0 s0 54 [(0, kr E l0), (1, .int l1)] []) (by intros; contradiction) (fun k hk l0 l1 G σ cc cs c0 s0 hc hs h => wX10_init_54B hX hY k hk hc hs h) NN
def X10_init (l0 : Nat) : kd1 → Option (Unit × kd1) :=
  n1 6 2 fun t1 =>
  sub1 1 60 (X6_init t1 (60 : Int32)) <|
  s1R 10 0 l0 t1 <|
  n1 6 2 fun t2 =>
  sub1 1 60 (X6_init t2 (60 : Int32)) <|
  s1R 10 1 l0 t2 <|
  n1 6 2 fun t3 =>
  sub1 1 60 (X6_init t3 (60 : Int32)) <|
  s1R 10 2 l0 t3 <|
  n1A 16 ((60 : Int32)) fun t4 =>
  s1R 10 3 l0 t4 <|
  X10_init_54 l0 (0 : Int32)
set_option maxRecDepth 100000 in
set_option maxHeartbeats 4000000 in
theorem wX10_init {E : kdE} {l0 : Nat} {G : kdS} {σ : kdM} {mc ms : Nat} {G1 : kdS} {σ1 : kdM} {c1 s1 : Nat} (h : X10_init l0 (G, σ, mc, ms) = some ((), (G1, σ1, c1, s1))) : Con1 E yX10_init cX10_init 2 none 2 mc ms [kr E l0] G σ (none, G1, σ1) := by
  refine kd1_head (own := RX10) rfl rfl (by decide +kernel) (Nat.le_of_ble_eq_true rfl) (fun A hX hY hc hs => ?_)
  replace hc : 0 + mc = (kdAR A).cells := by rw [hc, Nat.zero_add]
  replace hs : 0 + ms = (kdAR A).slots := by rw [hs, Nat.zero_add]
  show SWg E A 2 (kd1E E (none, G1, σ1) A) (kdR E G σ) 0 0 0 [(0, kr E l0)] []
  unfold X10_init at h
  refine r_aload_n hX dX10_init_0 rfl 0 rfl ?_
  refine r1_obj hX hY dX10_init_1 w_ml_X10_3 w_im_OI w_cd_OI (by decide) (Nat.le_of_ble_eq_true rfl) ?_
  refine r_aload_n hX dX10_init_4 rfl 0 rfl ?_
  refine r1_new (n := 2) hX hY dX10_init_5 kd_dd_X6 ⟨_, rfl⟩ w_cL_X10_9 w_is_X6 w_in_X6 hc hs h ?_
  clear h hc hs; intro t1 G σ cc cs c0 s0 hc hs h
  refine r_dup hX dX10_init_8 rfl ?_
  refine r_bipush hX dX10_init_9 kk_b_60 ?_
  refine r1_cI (As := [.int (60 : Int32)]) (st := [kr E t1, kr E l0]) hX hY dX10_init_11 kl_X6_init w_ml_X10_11 w_im_X6_init rfl (by decide) rfl (Nat.le_of_ble_eq_true rfl) rfl hc hs h (fun G1 σ1 c1 s1 h => wX6_init h) ?_
  clear h hc hs; intro G σ cc cs c0 s0 hc hs h
  refine r1_sR hX hY dX10_init_14 kf_X10_14 ⟨_, _, rfl⟩ rfl (by intro q hq; cases hq; exact ⟨_, tyX10_ok 0 (by decide), Or.inl ⟨_, rfl⟩⟩) hc hs h ?_
  clear h hc hs; intro G σ cc cs c0 s0 hc hs h
  refine r_aload_n hX dX10_init_17 rfl 0 rfl ?_
  refine r1_new (n := 2) hX hY dX10_init_18 kd_dd_X6 ⟨_, rfl⟩ w_cL_X10_9 w_is_X6 w_in_X6 hc hs h ?_
  clear h hc hs; intro t2 G σ cc cs c0 s0 hc hs h
  refine r_dup hX dX10_init_21 rfl ?_
  refine r_bipush hX dX10_init_22 kk_b_60 ?_
  refine r1_cI (As := [.int (60 : Int32)]) (st := [kr E t2, kr E l0]) hX hY dX10_init_24 kl_X6_init w_ml_X10_11 w_im_X6_init rfl (by decide) rfl (Nat.le_of_ble_eq_true rfl) rfl hc hs h (fun G1 σ1 c1 s1 h => wX6_init h) ?_
  clear h hc hs; intro G σ cc cs c0 s0 hc hs h
  refine r1_sR hX hY dX10_init_27 kf_X10_20 ⟨_, _, rfl⟩ rfl (by intro q hq; cases hq; exact ⟨_, tyX10_ok 1 (by decide), Or.inl ⟨_, rfl⟩⟩) hc hs h ?_
  clear h hc hs; intro G σ cc cs c0 s0 hc hs h
  refine r_aload_n hX dX10_init_30 rfl 0 rfl ?_
  refine r1_new (n := 2) hX hY dX10_init_31 kd_dd_X6 ⟨_, rfl⟩ w_cL_X10_9 w_is_X6 w_in_X6 hc hs h ?_
  clear h hc hs; intro t3 G σ cc cs c0 s0 hc hs h
  refine r_dup hX dX10_init_34 rfl ?_
  refine r_bipush hX dX10_init_35 kk_b_60 ?_
  refine r1_cI (As := [.int (60 : Int32)]) (st := [kr E t3, kr E l0]) hX hY dX10_init_37 kl_X6_init w_ml_X10_11 w_im_X6_init rfl (by decide) rfl (Nat.le_of_ble_eq_true rfl) rfl hc hs h (fun G1 σ1 c1 s1 h => wX6_init h) ?_
  clear h hc hs; intro G σ cc cs c0 s0 hc hs h
  refine r1_sR hX hY dX10_init_40 kf_X10_23 ⟨_, _, rfl⟩ rfl (by intro q hq; cases hq; exact ⟨_, tyX10_ok 2 (by decide), Or.inl ⟨_, rfl⟩⟩) hc hs h ?_
  clear h hc hs; intro G σ cc cs c0 s0 hc hs h
  refine r_aload_n hX dX10_init_43 rfl 0 rfl ?_
  refine r_bipush hX dX10_init_44 kk_b_60 ?_
  refine r1_newq16 hX hY dX10_init_46 w_cL_X10_9 hc hs h ?_
  clear h hc hs; intro t4 G σ cc cs c0 s0 hc hs h
  refine r1_sR hX hY dX10_init_49 kf_X10_26 ⟨_, _, rfl⟩ rfl (by intro q hq; cases hq; exact ⟨_, tyX10_ok 3 (by decide), Or.inr ⟨_, rfl⟩⟩) hc hs h ?_
  clear h hc hs; intro G σ cc cs c0 s0 hc hs h
  refine r_iconst hX dX10_init_52 kk_i_0 ?_
  refine r_istore_n (L2 := [(1, .int (0 : Int32)), (0, kr E l0)]) hX dX10_init_53 rfl (by decide) rfl ?_
  refine r_sub [1, 0] rfl ?_
  exact wX10_init_54 hX hY _ _ _ _ _ _ _ _ hc hs h
def X11_init_39B (k39 : Nat → Int32 → kd1 → Option (Unit × kd1)) (l0 : Nat) (l1 : Int32) : kd1 → Option (Unit × kd1) :=
  cnd1 ((3 : Int32) ≤ l1)
    (n1 4 5 fun t1 =>
    sub1 8 248 (X4_init t1) <|
    s1R 11 3 l0 t1 <|
    n1 10 4 fun t2 =>
    sub1 127 846 (X10_init t2) <|
    s1R 11 4 l0 t2 <|
    n1 7 2 fun t3 =>
    sub1 19 176 (X7_init t3) <|
    s1R 11 5 l0 t3 <|
    n1 1 3 fun t4 =>
    sub1 6 186 (X1_init t4) <|
    s1R 11 6 l0 t4 <|
    n1 5 9 fun t5 =>
    g1R 11 4 l0 fun t6 =>
    g1R 11 5 l0 fun t7 =>
    sub1 8 1372 (X5_init t5 t6 t7) <|
    s1R 11 7 l0 t5 <|
    n1 0 8 fun t8 =>
    g1R 11 4 l0 fun t9 =>
    sub1 79 4291 (X0_init t8 t9) <|
    s1R 11 8 l0 t8 <|
    n1 2 6 fun t10 =>
    sub1 7 190 (X2_init t10) <|
    s1R 11 9 l0 t10 <|
    n1 3 9 fun t11 =>
    sub1 12 84 (X3_init t11) <|
    s1R 11 10 l0 t11 <|
    n1 9 12 fun t12 =>
    g1R 11 10 l0 fun t13 =>
    sub1 10 2044 (X9_init t12 t13) <|
    s1R 11 11 l0 t12 <|
    rt1 ())
    (g1R 11 2 l0 fun t14 =>
    n1 8 8 fun t15 =>
    sub1 106 476 (X8_init t15) <|
    t1R 17 8 t14 (l1) t15 <|
    lt1 (l1 + Int32.ofInt 1) fun t16 =>
    k39 l0 t16)
set_option maxRecDepth 100000 in
set_option maxHeartbeats 4000000 in
theorem wX11_init_39B {E : kdE} {A : kdA} {G1 : kdS} {σ1 : kdM} {c1 s1 : Nat} (hX : kdX E A cX11_init 2 RX11 none 3) (hY : kdY A) (k39 : Nat → Int32 → kd1 → Option (Unit × kd1)) (hk39 : ∀ (l0 : Nat) (l1 : Int32) (G : kdS) (σ : kdM) (cc cs c0 s0 : Nat), c0 + cc = (kdAR A).cells → s0 + cs = (kdAR A).slots → k39 l0 l1 (G, σ, cc, cs) = some ((), (G1, σ1, c1, s1)) → SWg E A 2 (kd1E E (none, G1, σ1) A) (kdR E G σ) c0 s0 39 [(0, kr E l0), (1, .int l1)] []) {l0 : Nat} {l1 : Int32} {G : kdS} {σ : kdM} {cc cs c0 s0 : Nat} (hc : c0 + cc = (kdAR A).cells) (hs : s0 + cs = (kdAR A).slots) (h : X11_init_39B k39 l0 l1 (G, σ, cc, cs) = some ((), (G1, σ1, c1, s1))) : SWg E A 2 (kd1E E (none, G1, σ1) A) (kdR E G σ) c0 s0 39 [(0, kr E l0), (1, .int l1)] [] := by
  unfold X11_init_39B at h
  refine r_iload_n hX dX11_init_39 rfl 1 rfl ?_
  refine r_iconst hX dX11_init_40 kk_i_3 ?_
  refine r1_icmp_ge (tgt := 63) hX dX11_init_41 (by decide) h ?_ ?_
  · clear h; intro h
    refine r_aload_n hX dX11_init_63 rfl 0 rfl ?_
    refine r1_new (n := 5) hX hY dX11_init_64 kd_dd_X4 ⟨_, rfl⟩ w_cL_X11_28 w_is_X4 w_in_X4 hc hs h ?_
    clear h hc hs; intro t1 G σ cc cs c0 s0 hc hs h
    refine r_dup hX dX11_init_67 rfl ?_
    refine r1_cIN (As := []) (st := [kr E t1, kr E l0]) (host := "KeyDesk") hX hY dX11_init_68 kl_X4_init (by decide +kernel) w_im_X4_init rfl (by decide) rfl (Nat.le_of_ble_eq_true rfl) rfl hc hs h (fun G1 σ1 c1 s1 h => wX4_init h) ?_
    clear h hc hs; intro G σ cc cs c0 s0 hc hs h
    refine r1_sR hX hY dX11_init_71 kf_X11_31 ⟨_, _, rfl⟩ rfl (by intro q hq; cases hq; exact ⟨_, tyX11_ok 3 (by decide), Or.inl ⟨_, rfl⟩⟩) hc hs h ?_
    clear h hc hs; intro G σ cc cs c0 s0 hc hs h
    refine r_aload_n hX dX11_init_74 rfl 0 rfl ?_
    refine r1_new (n := 4) hX hY dX11_init_75 kd_dd_X10 ⟨_, rfl⟩ w_cL_X11_35 w_is_X10 w_in_X10 hc hs h ?_
    clear h hc hs; intro t2 G σ cc cs c0 s0 hc hs h
    refine r_dup hX dX11_init_78 rfl ?_
    refine r1_cI (As := []) (st := [kr E t2, kr E l0]) hX hY dX11_init_79 kl_X10_init w_ml_X11_37 w_im_X10_init rfl (by decide) rfl (Nat.le_of_ble_eq_true rfl) rfl hc hs h (fun G1 σ1 c1 s1 h => wX10_init h) ?_
    clear h hc hs; intro G σ cc cs c0 s0 hc hs h
    refine r1_sR hX hY dX11_init_82 kf_X11_38 ⟨_, _, rfl⟩ rfl (by intro q hq; cases hq; exact ⟨_, tyX11_ok 4 (by decide), Or.inl ⟨_, rfl⟩⟩) hc hs h ?_
    clear h hc hs; intro G σ cc cs c0 s0 hc hs h
    refine r_aload_n hX dX11_init_85 rfl 0 rfl ?_
    refine r1_new (n := 2) hX hY dX11_init_86 kd_dd_X7 ⟨_, rfl⟩ w_cL_X11_42 w_is_X7 w_in_X7 hc hs h ?_
    clear h hc hs; intro t3 G σ cc cs c0 s0 hc hs h
    refine r_dup hX dX11_init_89 rfl ?_
    refine r1_cIN (As := []) (st := [kr E t3, kr E l0]) (host := "KeyDesk") hX hY dX11_init_90 kl_X7_init (by decide +kernel) w_im_X7_init rfl (by decide) rfl (Nat.le_of_ble_eq_true rfl) rfl hc hs h (fun G1 σ1 c1 s1 h => wX7_init h) ?_
    clear h hc hs; intro G σ cc cs c0 s0 hc hs h
    refine r1_sR hX hY dX11_init_93 kf_X11_45 ⟨_, _, rfl⟩ rfl (by intro q hq; cases hq; exact ⟨_, tyX11_ok 5 (by decide), Or.inl ⟨_, rfl⟩⟩) hc hs h ?_
    clear h hc hs; intro G σ cc cs c0 s0 hc hs h
    refine r_aload_n hX dX11_init_96 rfl 0 rfl ?_
    refine r1_new (n := 3) hX hY dX11_init_97 kd_dd_X1 ⟨_, rfl⟩ w_cL_X11_49 w_is_X1 w_in_X1 hc hs h ?_
    clear h hc hs; intro t4 G σ cc cs c0 s0 hc hs h
    refine r_dup hX dX11_init_100 rfl ?_
    refine r1_cIN (As := []) (st := [kr E t4, kr E l0]) (host := "KeyDesk") hX hY dX11_init_101 kl_X1_init (by decide +kernel) w_im_X1_init rfl (by decide) rfl (Nat.le_of_ble_eq_true rfl) rfl hc hs h (fun G1 σ1 c1 s1 h => wX1_init h) ?_
    clear h hc hs; intro G σ cc cs c0 s0 hc hs h
    refine r1_sR hX hY dX11_init_104 kf_X11_52 ⟨_, _, rfl⟩ rfl (by intro q hq; cases hq; exact ⟨_, tyX11_ok 6 (by decide), Or.inl ⟨_, rfl⟩⟩) hc hs h ?_
    clear h hc hs; intro G σ cc cs c0 s0 hc hs h
    refine r_aload_n hX dX11_init_107 rfl 0 rfl ?_
    refine r1_new (n := 9) hX hY dX11_init_108 kd_dd_X5 ⟨_, rfl⟩ w_cL_X11_56 w_is_X5 w_in_X5 hc hs h ?_
    clear h hc hs; intro t5 G σ cc cs c0 s0 hc hs h
    refine r_dup hX dX11_init_111 rfl ?_
    refine r_aload_n hX dX11_init_112 rfl 0 rfl ?_
    refine r1_gR hX hY dX11_init_113 kf_X11_38 rfl hc hs h ?_
    clear h hc hs; intro t6 G σ cc cs c0 s0 hc hs h
    refine r_aload_n hX dX11_init_116 rfl 0 rfl ?_
    refine r1_gR hX hY dX11_init_117 kf_X11_45 rfl hc hs h ?_
    clear h hc hs; intro t7 G σ cc cs c0 s0 hc hs h
    refine r1_cI (As := [kr E t6, kr E t7]) (st := [kr E t5, kr E l0]) hX hY dX11_init_120 kl_X5_init w_ml_X11_58 w_im_X5_init rfl (by decide) rfl (Nat.le_of_ble_eq_true rfl) rfl hc hs h (fun G1 σ1 c1 s1 h => wX5_init h) ?_
    clear h hc hs; intro G σ cc cs c0 s0 hc hs h
    refine r1_sR hX hY dX11_init_123 kf_X11_61 ⟨_, _, rfl⟩ rfl (by intro q hq; cases hq; exact ⟨_, tyX11_ok 7 (by decide), Or.inl ⟨_, rfl⟩⟩) hc hs h ?_
    clear h hc hs; intro G σ cc cs c0 s0 hc hs h
    refine r_aload_n hX dX11_init_126 rfl 0 rfl ?_
    refine r1_new (n := 8) hX hY dX11_init_127 kd_dd_X0 ⟨_, rfl⟩ w_cL_X11_65 w_is_X0 w_in_X0 hc hs h ?_
    clear h hc hs; intro t8 G σ cc cs c0 s0 hc hs h
    refine r_dup hX dX11_init_130 rfl ?_
    refine r_aload_n hX dX11_init_131 rfl 0 rfl ?_
    refine r1_gR hX hY dX11_init_132 kf_X11_38 rfl hc hs h ?_
    clear h hc hs; intro t9 G σ cc cs c0 s0 hc hs h
    refine r1_cI (As := [kr E t9]) (st := [kr E t8, kr E l0]) hX hY dX11_init_135 kl_X0_init w_ml_X11_67 w_im_X0_init rfl (by decide) rfl (Nat.le_of_ble_eq_true rfl) rfl hc hs h (fun G1 σ1 c1 s1 h => wX0_init h) ?_
    clear h hc hs; intro G σ cc cs c0 s0 hc hs h
    refine r1_sR hX hY dX11_init_138 kf_X11_70 ⟨_, _, rfl⟩ rfl (by intro q hq; cases hq; exact ⟨_, tyX11_ok 8 (by decide), Or.inl ⟨_, rfl⟩⟩) hc hs h ?_
    clear h hc hs; intro G σ cc cs c0 s0 hc hs h
    refine r_aload_n hX dX11_init_141 rfl 0 rfl ?_
    refine r1_new (n := 6) hX hY dX11_init_142 kd_dd_X2 ⟨_, rfl⟩ w_cL_X11_74 w_is_X2 w_in_X2 hc hs h ?_
    clear h hc hs; intro t10 G σ cc cs c0 s0 hc hs h
    refine r_dup hX dX11_init_145 rfl ?_
    refine r1_cIN (As := []) (st := [kr E t10, kr E l0]) (host := "KeyDesk") hX hY dX11_init_146 kl_X2_init (by decide +kernel) w_im_X2_init rfl (by decide) rfl (Nat.le_of_ble_eq_true rfl) rfl hc hs h (fun G1 σ1 c1 s1 h => wX2_init h) ?_
    clear h hc hs; intro G σ cc cs c0 s0 hc hs h
    refine r1_sR hX hY dX11_init_149 kf_X11_77 ⟨_, _, rfl⟩ rfl (by intro q hq; cases hq; exact ⟨_, tyX11_ok 9 (by decide), Or.inl ⟨_, rfl⟩⟩) hc hs h ?_
    clear h hc hs; intro G σ cc cs c0 s0 hc hs h
    refine r_aload_n hX dX11_init_152 rfl 0 rfl ?_
    refine r1_new (n := 9) hX hY dX11_init_153 kd_dd_X3 ⟨_, rfl⟩ w_cL_X11_81 w_is_X3 w_in_X3 hc hs h ?_
    clear h hc hs; intro t11 G σ cc cs c0 s0 hc hs h
    refine r_dup hX dX11_init_156 rfl ?_
    refine r1_cI (As := []) (st := [kr E t11, kr E l0]) hX hY dX11_init_157 kl_X3_init w_ml_X11_83 w_im_X3_init rfl (by decide) rfl (Nat.le_of_ble_eq_true rfl) rfl hc hs h (fun G1 σ1 c1 s1 h => wX3_init h) ?_
    clear h hc hs; intro G σ cc cs c0 s0 hc hs h
    refine r1_sR hX hY dX11_init_160 kf_X11_84 ⟨_, _, rfl⟩ rfl (by intro q hq; cases hq; exact ⟨_, tyX11_ok 10 (by decide), Or.inl ⟨_, rfl⟩⟩) hc hs h ?_
    clear h hc hs; intro G σ cc cs c0 s0 hc hs h
    refine r_aload_n hX dX11_init_163 rfl 0 rfl ?_
    refine r1_new (n := 12) hX hY dX11_init_164 kd_dd_X9 ⟨_, rfl⟩ w_cL_X11_88 w_is_X9 w_in_X9 hc hs h ?_
    clear h hc hs; intro t12 G σ cc cs c0 s0 hc hs h
    refine r_dup hX dX11_init_167 rfl ?_
    refine r_aload_n hX dX11_init_168 rfl 0 rfl ?_
    refine r1_gR hX hY dX11_init_169 kf_X11_84 rfl hc hs h ?_
    clear h hc hs; intro t13 G σ cc cs c0 s0 hc hs h
    refine r1_cI (As := [kr E t13]) (st := [kr E t12, kr E l0]) hX hY dX11_init_172 kl_X9_init w_ml_X11_90 w_im_X9_init rfl (by decide) rfl (Nat.le_of_ble_eq_true rfl) rfl hc hs h (fun G1 σ1 c1 s1 h => wX9_init h) ?_
    clear h hc hs; intro G σ cc cs c0 s0 hc hs h
    refine r1_sR hX hY dX11_init_175 kf_X11_93 ⟨_, _, rfl⟩ rfl (by intro q hq; cases hq; exact ⟨_, tyX11_ok 11 (by decide), Or.inl ⟨_, rfl⟩⟩) hc hs h ?_
    clear h hc hs; intro G σ cc cs c0 s0 hc hs h
    exact r1_vret hX hc hs dX11_init_178 h
  · clear h; intro h
    refine r_aload_n hX dX11_init_44 rfl 0 rfl ?_
    refine r1_gR hX hY dX11_init_45 kf_X11_23 rfl hc hs h ?_
    clear h hc hs; intro t14 G σ cc cs c0 s0 hc hs h
    refine r_iload_n hX dX11_init_48 rfl 1 rfl ?_
    refine r1_new (n := 8) hX hY dX11_init_49 kd_dd_X8 ⟨_, rfl⟩ w_cL_X11_21 w_is_X8 w_in_X8 hc hs h ?_
    clear h hc hs; intro t15 G σ cc cs c0 s0 hc hs h
    refine r_dup hX dX11_init_52 rfl ?_
    refine r1_cI (As := []) (st := [kr E t15, .int l1, kr E t14]) hX hY dX11_init_53 kl_X8_init w_ml_X11_27 w_im_X8_init rfl (by decide) rfl (Nat.le_of_ble_eq_true rfl) rfl hc hs h (fun G1 σ1 c1 s1 h => wX8_init h) ?_
    clear h hc hs; intro G σ cc cs c0 s0 hc hs h
    refine r1_tR17 hX hY dX11_init_56 hc hs h ?_
    clear h hc hs; intro G σ cc cs c0 s0 hc hs h
    refine r1_iincL (L2 := fun t16 => [(1, .int t16), (0, kr E l0)]) hX dX11_init_57 h 1 rfl (by decide) (fun _ => rfl) ?_
    clear h; intro t16 h
    refine r_goto (tgt := 39) hX dX11_init_60 (by decide) ?_
    refine r_sub [1, 0] rfl ?_
    exact hk39 _ _ _ _ _ _ _ _ hc hs h
def X11_init_39 : Nat → Int32 → kd1 → Option (Unit × kd1) := lp (fun _ _ _ => none) (X11_init_39B) NN
theorem wX11_init_39 {E : kdE} {A : kdA} {G1 : kdS} {σ1 : kdM} {c1 s1 : Nat} (hX : kdX E A cX11_init 2 RX11 none 3) (hY : kdY A) : ∀ (l0 : Nat) (l1 : Int32) (G : kdS) (σ : kdM) (cc cs c0 s0 : Nat), c0 + cc = (kdAR A).cells → s0 + cs = (kdAR A).slots → X11_init_39 l0 l1 (G, σ, cc, cs) = some ((), (G1, σ1, c1, s1)) → SWg E A 2 (kd1E E (none, G1, σ1) A) (kdR E G σ) c0 s0 39 [(0, kr E l0), (1, .int l1)] [] :=
  lp_ind (Q := fun f => ∀ (l0 : Nat) (l1 : Int32) (G : kdS) (σ : kdM) (cc cs c0 s0 : Nat), c0 + cc = (kdAR A).cells → s0 + cs = (kdAR A).slots → f l0 l1 (G, σ, cc, cs) = some ((), (G1, σ1, c1, s1)) → SWg E A 2 (kd1E E (none, G1, σ1) A) (kdR E G σ) c0 s0 39 [(0, kr E l0), (1, .int l1)] []) (by intros; contradiction) (fun k hk l0 l1 G σ cc cs c0 s0 hc hs h => wX11_init_39B hX hY k hk hc hs h) NN
def X11_init (l0 : Nat) : kd1 → Option (Unit × kd1) :=
  n1 6 2 fun t1 =>
  sub1 1 16 (X6_init t1 (16 : Int32)) <|
  s1R 11 0 l0 t1 <|
  n1 6 2 fun t2 =>
  sub1 1 3 (X6_init t2 (3 : Int32)) <|
  s1R 11 1 l0 t2 <|
  n1A 17 ((3 : Int32)) fun t3 =>
  s1R 11 2 l0 t3 <|
  X11_init_39 l0 (0 : Int32)
set_option maxRecDepth 100000 in
set_option maxHeartbeats 4000000 in
theorem wX11_init {E : kdE} {l0 : Nat} {G : kdS} {σ : kdM} {mc ms : Nat} {G1 : kdS} {σ1 : kdM} {c1 s1 : Nat} (h : X11_init l0 (G, σ, mc, ms) = some ((), (G1, σ1, c1, s1))) : Con1 E yX11_init cX11_init 2 none 3 mc ms [kr E l0] G σ (none, G1, σ1) := by
  refine kd1_head (own := RX11) rfl rfl (by decide +kernel) (Nat.le_of_ble_eq_true rfl) (fun A hX hY hc hs => ?_)
  replace hc : 0 + mc = (kdAR A).cells := by rw [hc, Nat.zero_add]
  replace hs : 0 + ms = (kdAR A).slots := by rw [hs, Nat.zero_add]
  show SWg E A 2 (kd1E E (none, G1, σ1) A) (kdR E G σ) 0 0 0 [(0, kr E l0)] []
  unfold X11_init at h
  refine r_aload_n hX dX11_init_0 rfl 0 rfl ?_
  refine r1_obj hX hY dX11_init_1 w_ml_X11_1 w_im_OI w_cd_OI (by decide) (Nat.le_of_ble_eq_true rfl) ?_
  refine r_aload_n hX dX11_init_4 rfl 0 rfl ?_
  refine r1_new (n := 2) hX hY dX11_init_5 kd_dd_X6 ⟨_, rfl⟩ w_cL_X11_7 w_is_X6 w_in_X6 hc hs h ?_
  clear h hc hs; intro t1 G σ cc cs c0 s0 hc hs h
  refine r_dup hX dX11_init_8 rfl ?_
  refine r_bipush hX dX11_init_9 kk_b_16 ?_
  refine r1_cI (As := [.int (16 : Int32)]) (st := [kr E t1, kr E l0]) hX hY dX11_init_11 kl_X6_init w_ml_X11_11 w_im_X6_init rfl (by decide) rfl (Nat.le_of_ble_eq_true rfl) rfl hc hs h (fun G1 σ1 c1 s1 h => wX6_init h) ?_
  clear h hc hs; intro G σ cc cs c0 s0 hc hs h
  refine r1_sR hX hY dX11_init_14 kf_X11_14 ⟨_, _, rfl⟩ rfl (by intro q hq; cases hq; exact ⟨_, tyX11_ok 0 (by decide), Or.inl ⟨_, rfl⟩⟩) hc hs h ?_
  clear h hc hs; intro G σ cc cs c0 s0 hc hs h
  refine r_aload_n hX dX11_init_17 rfl 0 rfl ?_
  refine r1_new (n := 2) hX hY dX11_init_18 kd_dd_X6 ⟨_, rfl⟩ w_cL_X11_7 w_is_X6 w_in_X6 hc hs h ?_
  clear h hc hs; intro t2 G σ cc cs c0 s0 hc hs h
  refine r_dup hX dX11_init_21 rfl ?_
  refine r_iconst hX dX11_init_22 kk_i_3 ?_
  refine r1_cI (As := [.int (3 : Int32)]) (st := [kr E t2, kr E l0]) hX hY dX11_init_23 kl_X6_init w_ml_X11_11 w_im_X6_init rfl (by decide) rfl (Nat.le_of_ble_eq_true rfl) rfl hc hs h (fun G1 σ1 c1 s1 h => wX6_init h) ?_
  clear h hc hs; intro G σ cc cs c0 s0 hc hs h
  refine r1_sR hX hY dX11_init_26 kf_X11_18 ⟨_, _, rfl⟩ rfl (by intro q hq; cases hq; exact ⟨_, tyX11_ok 1 (by decide), Or.inl ⟨_, rfl⟩⟩) hc hs h ?_
  clear h hc hs; intro G σ cc cs c0 s0 hc hs h
  refine r_aload_n hX dX11_init_29 rfl 0 rfl ?_
  refine r_iconst hX dX11_init_30 kk_i_3 ?_
  refine r1_newq17 hX hY dX11_init_31 w_cL_X11_21 hc hs h ?_
  clear h hc hs; intro t3 G σ cc cs c0 s0 hc hs h
  refine r1_sR hX hY dX11_init_34 kf_X11_23 ⟨_, _, rfl⟩ rfl (by intro q hq; cases hq; exact ⟨_, tyX11_ok 2 (by decide), Or.inr ⟨_, rfl⟩⟩) hc hs h ?_
  clear h hc hs; intro G σ cc cs c0 s0 hc hs h
  refine r_iconst hX dX11_init_37 kk_i_0 ?_
  refine r_istore_n (L2 := [(1, .int (0 : Int32)), (0, kr E l0)]) hX dX11_init_38 rfl (by decide) rfl ?_
  refine r_sub [1, 0] rfl ?_
  exact wX11_init_39 hX hY _ _ _ _ _ _ _ _ hc hs h
