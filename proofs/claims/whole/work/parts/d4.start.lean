/-! OWN: the memory at the start of the law -/
def i0 (q k : Nat) : Int32 := match cE[q - 32]? with
  | some (.inr (_, fs)) => match fs[k]? with
    | some (.int x) => x
    | _ => 0
  | _ => 0
def l0 (q k : Nat) : Int64 := match cE[q - 32]? with
  | some (.inr (_, fs)) => match fs[k]? with
    | some (.long x) => x
    | _ => 0
  | _ => 0
def I0 (q : Nat) : Nat → Int32 := match cE[q - 32]? with
  | some (.inl (_, _, .inl f)) => f
  | _ => fun _ => 0
def J0 (q : Nat) : Nat → Int64 := match cE[q - 32]? with
  | some (.inl (_, _, .inr (.inl f))) => f
  | _ => fun _ => 0
def P0 (j : Nat) : Nat := if j < 8 then 105 + 14 * j else 0
set_option maxRecDepth 100000 in
theorem se_0 : cE[0]? = some (kce i0 l0 I0 J0 37 51 P0 32) := rfl
set_option maxRecDepth 100000 in
theorem se_1 : cE[1]? = some (kce i0 l0 I0 J0 37 51 P0 33) := rfl
set_option maxRecDepth 100000 in
theorem se_2 : cE[2]? = some (kce i0 l0 I0 J0 37 51 P0 34) := rfl
set_option maxRecDepth 100000 in
theorem se_3 : cE[3]? = some (kce i0 l0 I0 J0 37 51 P0 35) := rfl
set_option maxRecDepth 100000 in
theorem se_4 : cE[4]? = some (kce i0 l0 I0 J0 37 51 P0 36) := rfl
set_option maxRecDepth 100000 in
theorem se_5 : cE[5]? = some (kce i0 l0 I0 J0 37 51 P0 37) := rfl
set_option maxRecDepth 100000 in
theorem se_6 : cE[6]? = some (kce i0 l0 I0 J0 37 51 P0 38) := rfl
set_option maxRecDepth 100000 in
theorem se_7 : cE[7]? = some (kce i0 l0 I0 J0 37 51 P0 39) := rfl
set_option maxRecDepth 100000 in
theorem se_8 : cE[8]? = some (kce i0 l0 I0 J0 37 51 P0 40) := rfl
set_option maxRecDepth 100000 in
theorem se_9 : cE[9]? = some (kce i0 l0 I0 J0 37 51 P0 41) := rfl
set_option maxRecDepth 100000 in
theorem se_10 : cE[10]? = some (kce i0 l0 I0 J0 37 51 P0 42) := rfl
set_option maxRecDepth 100000 in
theorem se_11 : cE[11]? = some (kce i0 l0 I0 J0 37 51 P0 43) := rfl
set_option maxRecDepth 100000 in
theorem se_12 : cE[12]? = some (kce i0 l0 I0 J0 37 51 P0 44) := rfl
set_option maxRecDepth 100000 in
theorem se_13 : cE[13]? = some (kce i0 l0 I0 J0 37 51 P0 45) := rfl
set_option maxRecDepth 100000 in
theorem se_14 : cE[14]? = some (kce i0 l0 I0 J0 37 51 P0 46) := rfl
set_option maxRecDepth 100000 in
theorem se_15 : cE[15]? = some (kce i0 l0 I0 J0 37 51 P0 47) := rfl
set_option maxRecDepth 100000 in
theorem se_16 : cE[16]? = some (kce i0 l0 I0 J0 37 51 P0 48) := rfl
set_option maxRecDepth 100000 in
theorem se_17 : cE[17]? = some (kce i0 l0 I0 J0 37 51 P0 49) := rfl
set_option maxRecDepth 100000 in
theorem se_18 : cE[18]? = some (kce i0 l0 I0 J0 37 51 P0 50) := rfl
set_option maxRecDepth 100000 in
theorem se_19 : cE[19]? = some (kce i0 l0 I0 J0 37 51 P0 51) := rfl
set_option maxRecDepth 100000 in
theorem se_20 : cE[20]? = some (kce i0 l0 I0 J0 37 51 P0 52) := rfl
set_option maxRecDepth 100000 in
theorem se_21 : cE[21]? = some (kce i0 l0 I0 J0 37 51 P0 53) := rfl
set_option maxRecDepth 100000 in
theorem se_22 : cE[22]? = some (kce i0 l0 I0 J0 37 51 P0 54) := rfl
set_option maxRecDepth 100000 in
theorem se_23 : cE[23]? = some (kce i0 l0 I0 J0 37 51 P0 55) := rfl
set_option maxRecDepth 100000 in
theorem se_24 : cE[24]? = some (kce i0 l0 I0 J0 37 51 P0 56) := rfl
set_option maxRecDepth 100000 in
theorem se_25 : cE[25]? = some (kce i0 l0 I0 J0 37 51 P0 57) := rfl
set_option maxRecDepth 100000 in
theorem se_26 : cE[26]? = some (kce i0 l0 I0 J0 37 51 P0 58) := rfl
set_option maxRecDepth 100000 in
theorem se_27 : cE[27]? = some (kce i0 l0 I0 J0 37 51 P0 59) := rfl
set_option maxRecDepth 100000 in
theorem se_28 : cE[28]? = some (kce i0 l0 I0 J0 37 51 P0 60) := rfl
set_option maxRecDepth 100000 in
theorem se_29 : cE[29]? = some (kce i0 l0 I0 J0 37 51 P0 61) := rfl
set_option maxRecDepth 100000 in
theorem se_30 : cE[30]? = some (kce i0 l0 I0 J0 37 51 P0 62) := rfl
set_option maxRecDepth 100000 in
theorem se_31 : cE[31]? = some (kce i0 l0 I0 J0 37 51 P0 63) := rfl
set_option maxRecDepth 100000 in
theorem se_32 : cE[32]? = some (kce i0 l0 I0 J0 37 51 P0 64) := rfl
set_option maxRecDepth 100000 in
theorem se_33 : cE[33]? = some (kce i0 l0 I0 J0 37 51 P0 65) := by
  show some _ = some _
  refine congrArg some ?_
  show (.inl (.object "KnockFinder$State", 8, .inr (.inr (.inr (.inr _)))) : kE) = .inl (.object "KnockFinder$State", 8, .inr (.inr (.inr (.inr fun j => some (P0 j)))))
  congr 6
  refine congrArg Sum.inr ?_
  funext j
  have : j = 0 ∨ j = 1 ∨ j = 2 ∨ j = 3 ∨ j = 4 ∨ j = 5 ∨ j = 6 ∨ j = 7 ∨ 8 ≤ j := by omega
  rcases this with rfl | rfl | rfl | rfl | rfl | rfl | rfl | rfl | h
  case inr.inr.inr.inr.inr.inr.inr.inr =>
    simp only [va_up, P0]
    rw [if_neg (by omega), if_neg (by omega), if_neg (by omega), if_neg (by omega), if_neg (by omega), if_neg (by omega), if_neg (by omega), if_neg (by omega), if_neg (by omega), if_neg (by omega)]
  all_goals rfl
set_option maxRecDepth 100000 in
theorem se_34 : cE[34]? = some (kce i0 l0 I0 J0 37 51 P0 66) := rfl
set_option maxRecDepth 100000 in
theorem se_35 : cE[35]? = some (kce i0 l0 I0 J0 37 51 P0 67) := rfl
set_option maxRecDepth 100000 in
theorem se_36 : cE[36]? = some (kce i0 l0 I0 J0 37 51 P0 68) := rfl
set_option maxRecDepth 100000 in
theorem se_37 : cE[37]? = some (kce i0 l0 I0 J0 37 51 P0 69) := rfl
set_option maxRecDepth 100000 in
theorem se_38 : cE[38]? = some (kce i0 l0 I0 J0 37 51 P0 70) := rfl
set_option maxRecDepth 100000 in
theorem se_39 : cE[39]? = some (kce i0 l0 I0 J0 37 51 P0 71) := rfl
set_option maxRecDepth 100000 in
theorem se_40 : cE[40]? = some (kce i0 l0 I0 J0 37 51 P0 72) := rfl
set_option maxRecDepth 100000 in
theorem se_41 : cE[41]? = some (kce i0 l0 I0 J0 37 51 P0 73) := rfl
set_option maxRecDepth 100000 in
theorem se_42 : cE[42]? = some (kce i0 l0 I0 J0 37 51 P0 74) := rfl
set_option maxRecDepth 100000 in
theorem se_43 : cE[43]? = some (kce i0 l0 I0 J0 37 51 P0 75) := rfl
set_option maxRecDepth 100000 in
theorem se_44 : cE[44]? = some (kce i0 l0 I0 J0 37 51 P0 76) := rfl
set_option maxRecDepth 100000 in
theorem se_45 : cE[45]? = some (kce i0 l0 I0 J0 37 51 P0 77) := rfl
set_option maxRecDepth 100000 in
theorem se_46 : cE[46]? = some (kce i0 l0 I0 J0 37 51 P0 78) := rfl
set_option maxRecDepth 100000 in
theorem se_47 : cE[47]? = some (kce i0 l0 I0 J0 37 51 P0 79) := rfl
set_option maxRecDepth 100000 in
theorem se_48 : cE[48]? = some (kce i0 l0 I0 J0 37 51 P0 80) := rfl
set_option maxRecDepth 100000 in
theorem se_49 : cE[49]? = some (kce i0 l0 I0 J0 37 51 P0 81) := rfl
set_option maxRecDepth 100000 in
theorem se_50 : cE[50]? = some (kce i0 l0 I0 J0 37 51 P0 82) := rfl
set_option maxRecDepth 100000 in
theorem se_51 : cE[51]? = some (kce i0 l0 I0 J0 37 51 P0 83) := rfl
set_option maxRecDepth 100000 in
theorem se_52 : cE[52]? = some (kce i0 l0 I0 J0 37 51 P0 84) := rfl
set_option maxRecDepth 100000 in
theorem se_53 : cE[53]? = some (kce i0 l0 I0 J0 37 51 P0 85) := rfl
set_option maxRecDepth 100000 in
theorem se_54 : cE[54]? = some (kce i0 l0 I0 J0 37 51 P0 86) := rfl
set_option maxRecDepth 100000 in
theorem se_55 : cE[55]? = some (kce i0 l0 I0 J0 37 51 P0 87) := rfl
set_option maxRecDepth 100000 in
theorem se_56 : cE[56]? = some (kce i0 l0 I0 J0 37 51 P0 88) := rfl
set_option maxRecDepth 100000 in
theorem se_57 : cE[57]? = some (kce i0 l0 I0 J0 37 51 P0 89) := rfl
set_option maxRecDepth 100000 in
theorem se_58 : cE[58]? = some (kce i0 l0 I0 J0 37 51 P0 90) := rfl
set_option maxRecDepth 100000 in
theorem se_59 : cE[59]? = some (kce i0 l0 I0 J0 37 51 P0 91) := rfl
set_option maxRecDepth 100000 in
theorem se_60 : cE[60]? = some (kce i0 l0 I0 J0 37 51 P0 92) := rfl
set_option maxRecDepth 100000 in
theorem se_61 : cE[61]? = some (kce i0 l0 I0 J0 37 51 P0 93) := rfl
set_option maxRecDepth 100000 in
theorem se_62 : cE[62]? = some (kce i0 l0 I0 J0 37 51 P0 94) := rfl
set_option maxRecDepth 100000 in
theorem se_63 : cE[63]? = some (kce i0 l0 I0 J0 37 51 P0 95) := rfl
set_option maxRecDepth 100000 in
theorem se_64 : cE[64]? = some (kce i0 l0 I0 J0 37 51 P0 96) := rfl
set_option maxRecDepth 100000 in
theorem se_65 : cE[65]? = some (kce i0 l0 I0 J0 37 51 P0 97) := rfl
set_option maxRecDepth 100000 in
theorem se_66 : cE[66]? = some (kce i0 l0 I0 J0 37 51 P0 98) := rfl
set_option maxRecDepth 100000 in
theorem se_67 : cE[67]? = some (kce i0 l0 I0 J0 37 51 P0 99) := rfl
set_option maxRecDepth 100000 in
theorem se_68 : cE[68]? = some (kce i0 l0 I0 J0 37 51 P0 100) := rfl
set_option maxRecDepth 100000 in
theorem se_69 : cE[69]? = some (kce i0 l0 I0 J0 37 51 P0 101) := rfl
set_option maxRecDepth 100000 in
theorem se_70 : cE[70]? = some (kce i0 l0 I0 J0 37 51 P0 102) := rfl
set_option maxRecDepth 100000 in
theorem se_71 : cE[71]? = some (kce i0 l0 I0 J0 37 51 P0 103) := rfl
set_option maxRecDepth 100000 in
theorem se_72 : cE[72]? = some (kce i0 l0 I0 J0 37 51 P0 104) := rfl
set_option maxRecDepth 100000 in
theorem se_73 : cE[73]? = some (kce i0 l0 I0 J0 37 51 P0 105) := rfl
set_option maxRecDepth 100000 in
theorem se_74 : cE[74]? = some (kce i0 l0 I0 J0 37 51 P0 106) := rfl
set_option maxRecDepth 100000 in
theorem se_75 : cE[75]? = some (kce i0 l0 I0 J0 37 51 P0 107) := rfl
set_option maxRecDepth 100000 in
theorem se_76 : cE[76]? = some (kce i0 l0 I0 J0 37 51 P0 108) := rfl
set_option maxRecDepth 100000 in
theorem se_77 : cE[77]? = some (kce i0 l0 I0 J0 37 51 P0 109) := rfl
set_option maxRecDepth 100000 in
theorem se_78 : cE[78]? = some (kce i0 l0 I0 J0 37 51 P0 110) := rfl
set_option maxRecDepth 100000 in
theorem se_79 : cE[79]? = some (kce i0 l0 I0 J0 37 51 P0 111) := rfl
set_option maxRecDepth 100000 in
theorem se_80 : cE[80]? = some (kce i0 l0 I0 J0 37 51 P0 112) := rfl
set_option maxRecDepth 100000 in
theorem se_81 : cE[81]? = some (kce i0 l0 I0 J0 37 51 P0 113) := rfl
set_option maxRecDepth 100000 in
theorem se_82 : cE[82]? = some (kce i0 l0 I0 J0 37 51 P0 114) := rfl
set_option maxRecDepth 100000 in
theorem se_83 : cE[83]? = some (kce i0 l0 I0 J0 37 51 P0 115) := rfl
set_option maxRecDepth 100000 in
theorem se_84 : cE[84]? = some (kce i0 l0 I0 J0 37 51 P0 116) := rfl
set_option maxRecDepth 100000 in
theorem se_85 : cE[85]? = some (kce i0 l0 I0 J0 37 51 P0 117) := rfl
set_option maxRecDepth 100000 in
theorem se_86 : cE[86]? = some (kce i0 l0 I0 J0 37 51 P0 118) := rfl
set_option maxRecDepth 100000 in
theorem se_87 : cE[87]? = some (kce i0 l0 I0 J0 37 51 P0 119) := rfl
set_option maxRecDepth 100000 in
theorem se_88 : cE[88]? = some (kce i0 l0 I0 J0 37 51 P0 120) := rfl
set_option maxRecDepth 100000 in
theorem se_89 : cE[89]? = some (kce i0 l0 I0 J0 37 51 P0 121) := rfl
set_option maxRecDepth 100000 in
theorem se_90 : cE[90]? = some (kce i0 l0 I0 J0 37 51 P0 122) := rfl
set_option maxRecDepth 100000 in
theorem se_91 : cE[91]? = some (kce i0 l0 I0 J0 37 51 P0 123) := rfl
set_option maxRecDepth 100000 in
theorem se_92 : cE[92]? = some (kce i0 l0 I0 J0 37 51 P0 124) := rfl
set_option maxRecDepth 100000 in
theorem se_93 : cE[93]? = some (kce i0 l0 I0 J0 37 51 P0 125) := rfl
set_option maxRecDepth 100000 in
theorem se_94 : cE[94]? = some (kce i0 l0 I0 J0 37 51 P0 126) := rfl
set_option maxRecDepth 100000 in
theorem se_95 : cE[95]? = some (kce i0 l0 I0 J0 37 51 P0 127) := rfl
set_option maxRecDepth 100000 in
theorem se_96 : cE[96]? = some (kce i0 l0 I0 J0 37 51 P0 128) := rfl
set_option maxRecDepth 100000 in
theorem se_97 : cE[97]? = some (kce i0 l0 I0 J0 37 51 P0 129) := rfl
set_option maxRecDepth 100000 in
theorem se_98 : cE[98]? = some (kce i0 l0 I0 J0 37 51 P0 130) := rfl
set_option maxRecDepth 100000 in
theorem se_99 : cE[99]? = some (kce i0 l0 I0 J0 37 51 P0 131) := rfl
set_option maxRecDepth 100000 in
theorem se_100 : cE[100]? = some (kce i0 l0 I0 J0 37 51 P0 132) := rfl
set_option maxRecDepth 100000 in
theorem se_101 : cE[101]? = some (kce i0 l0 I0 J0 37 51 P0 133) := rfl
set_option maxRecDepth 100000 in
theorem se_102 : cE[102]? = some (kce i0 l0 I0 J0 37 51 P0 134) := rfl
set_option maxRecDepth 100000 in
theorem se_103 : cE[103]? = some (kce i0 l0 I0 J0 37 51 P0 135) := rfl
set_option maxRecDepth 100000 in
theorem se_104 : cE[104]? = some (kce i0 l0 I0 J0 37 51 P0 136) := rfl
set_option maxRecDepth 100000 in
theorem se_105 : cE[105]? = some (kce i0 l0 I0 J0 37 51 P0 137) := rfl
set_option maxRecDepth 100000 in
theorem se_106 : cE[106]? = some (kce i0 l0 I0 J0 37 51 P0 138) := rfl
set_option maxRecDepth 100000 in
theorem se_107 : cE[107]? = some (kce i0 l0 I0 J0 37 51 P0 139) := rfl
set_option maxRecDepth 100000 in
theorem se_108 : cE[108]? = some (kce i0 l0 I0 J0 37 51 P0 140) := rfl
set_option maxRecDepth 100000 in
theorem se_109 : cE[109]? = some (kce i0 l0 I0 J0 37 51 P0 141) := rfl
set_option maxRecDepth 100000 in
theorem se_110 : cE[110]? = some (kce i0 l0 I0 J0 37 51 P0 142) := rfl
set_option maxRecDepth 100000 in
theorem se_111 : cE[111]? = some (kce i0 l0 I0 J0 37 51 P0 143) := rfl
set_option maxRecDepth 100000 in
theorem se_112 : cE[112]? = some (kce i0 l0 I0 J0 37 51 P0 144) := rfl
set_option maxRecDepth 100000 in
theorem se_113 : cE[113]? = some (kce i0 l0 I0 J0 37 51 P0 145) := rfl
set_option maxRecDepth 100000 in
theorem se_114 : cE[114]? = some (kce i0 l0 I0 J0 37 51 P0 146) := rfl
set_option maxRecDepth 100000 in
theorem se_115 : cE[115]? = some (kce i0 l0 I0 J0 37 51 P0 147) := rfl
set_option maxRecDepth 100000 in
theorem se_116 : cE[116]? = some (kce i0 l0 I0 J0 37 51 P0 148) := rfl
set_option maxRecDepth 100000 in
theorem se_117 : cE[117]? = some (kce i0 l0 I0 J0 37 51 P0 149) := rfl
set_option maxRecDepth 100000 in
theorem se_118 : cE[118]? = some (kce i0 l0 I0 J0 37 51 P0 150) := rfl
set_option maxRecDepth 100000 in
theorem se_119 : cE[119]? = some (kce i0 l0 I0 J0 37 51 P0 151) := rfl
set_option maxRecDepth 100000 in
theorem se_120 : cE[120]? = some (kce i0 l0 I0 J0 37 51 P0 152) := rfl
set_option maxRecDepth 100000 in
theorem se_121 : cE[121]? = some (kce i0 l0 I0 J0 37 51 P0 153) := rfl
set_option maxRecDepth 100000 in
theorem se_122 : cE[122]? = some (kce i0 l0 I0 J0 37 51 P0 154) := rfl
set_option maxRecDepth 100000 in
theorem se_123 : cE[123]? = some (kce i0 l0 I0 J0 37 51 P0 155) := rfl
set_option maxRecDepth 100000 in
theorem se_124 : cE[124]? = some (kce i0 l0 I0 J0 37 51 P0 156) := rfl
set_option maxRecDepth 100000 in
theorem se_125 : cE[125]? = some (kce i0 l0 I0 J0 37 51 P0 157) := rfl
set_option maxRecDepth 100000 in
theorem se_126 : cE[126]? = some (kce i0 l0 I0 J0 37 51 P0 158) := rfl
set_option maxRecDepth 100000 in
theorem se_127 : cE[127]? = some (kce i0 l0 I0 J0 37 51 P0 159) := rfl
set_option maxRecDepth 100000 in
theorem se_128 : cE[128]? = some (kce i0 l0 I0 J0 37 51 P0 160) := rfl
set_option maxRecDepth 100000 in
theorem se_129 : cE[129]? = some (kce i0 l0 I0 J0 37 51 P0 161) := rfl
set_option maxRecDepth 100000 in
theorem se_130 : cE[130]? = some (kce i0 l0 I0 J0 37 51 P0 162) := rfl
set_option maxRecDepth 100000 in
theorem se_131 : cE[131]? = some (kce i0 l0 I0 J0 37 51 P0 163) := rfl
set_option maxRecDepth 100000 in
theorem se_132 : cE[132]? = some (kce i0 l0 I0 J0 37 51 P0 164) := rfl
set_option maxRecDepth 100000 in
theorem se_133 : cE[133]? = some (kce i0 l0 I0 J0 37 51 P0 165) := rfl
set_option maxRecDepth 100000 in
theorem se_134 : cE[134]? = some (kce i0 l0 I0 J0 37 51 P0 166) := rfl
set_option maxRecDepth 100000 in
theorem se_135 : cE[135]? = some (kce i0 l0 I0 J0 37 51 P0 167) := rfl
set_option maxRecDepth 100000 in
theorem se_136 : cE[136]? = some (kce i0 l0 I0 J0 37 51 P0 168) := rfl
set_option maxRecDepth 100000 in
theorem se_137 : cE[137]? = some (kce i0 l0 I0 J0 37 51 P0 169) := rfl
set_option maxRecDepth 100000 in
theorem se_138 : cE[138]? = some (kce i0 l0 I0 J0 37 51 P0 170) := rfl
set_option maxRecDepth 100000 in
theorem se_139 : cE[139]? = some (kce i0 l0 I0 J0 37 51 P0 171) := rfl
set_option maxRecDepth 100000 in
theorem se_140 : cE[140]? = some (kce i0 l0 I0 J0 37 51 P0 172) := rfl
set_option maxRecDepth 100000 in
theorem se_141 : cE[141]? = some (kce i0 l0 I0 J0 37 51 P0 173) := rfl
set_option maxRecDepth 100000 in
theorem se_142 : cE[142]? = some (kce i0 l0 I0 J0 37 51 P0 174) := rfl
set_option maxRecDepth 100000 in
theorem se_143 : cE[143]? = some (kce i0 l0 I0 J0 37 51 P0 175) := rfl
set_option maxRecDepth 100000 in
theorem se_144 : cE[144]? = some (kce i0 l0 I0 J0 37 51 P0 176) := rfl
set_option maxRecDepth 100000 in
theorem se_145 : cE[145]? = some (kce i0 l0 I0 J0 37 51 P0 177) := rfl
set_option maxRecDepth 100000 in
theorem se_146 : cE[146]? = some (kce i0 l0 I0 J0 37 51 P0 178) := rfl
set_option maxRecDepth 100000 in
theorem se_147 : cE[147]? = some (kce i0 l0 I0 J0 37 51 P0 179) := rfl
set_option maxRecDepth 100000 in
theorem se_148 : cE[148]? = some (kce i0 l0 I0 J0 37 51 P0 180) := rfl
set_option maxRecDepth 100000 in
theorem se_149 : cE[149]? = some (kce i0 l0 I0 J0 37 51 P0 181) := rfl
set_option maxRecDepth 100000 in
theorem se_150 : cE[150]? = some (kce i0 l0 I0 J0 37 51 P0 182) := rfl
set_option maxRecDepth 100000 in
theorem se_151 : cE[151]? = some (kce i0 l0 I0 J0 37 51 P0 183) := rfl
set_option maxRecDepth 100000 in
theorem se_152 : cE[152]? = some (kce i0 l0 I0 J0 37 51 P0 184) := rfl
set_option maxRecDepth 100000 in
theorem se_153 : cE[153]? = some (kce i0 l0 I0 J0 37 51 P0 185) := rfl
set_option maxRecDepth 100000 in
theorem se_154 : cE[154]? = some (kce i0 l0 I0 J0 37 51 P0 186) := rfl
set_option maxRecDepth 100000 in
theorem se_155 : cE[155]? = some (kce i0 l0 I0 J0 37 51 P0 187) := rfl
set_option maxRecDepth 100000 in
theorem se_156 : cE[156]? = some (kce i0 l0 I0 J0 37 51 P0 188) := rfl
set_option maxRecDepth 100000 in
theorem se_157 : cE[157]? = some (kce i0 l0 I0 J0 37 51 P0 189) := rfl
set_option maxRecDepth 100000 in
theorem se_158 : cE[158]? = some (kce i0 l0 I0 J0 37 51 P0 190) := rfl
set_option maxRecDepth 100000 in
theorem se_159 : cE[159]? = some (kce i0 l0 I0 J0 37 51 P0 191) := rfl
set_option maxRecDepth 100000 in
theorem se_160 : cE[160]? = some (kce i0 l0 I0 J0 37 51 P0 192) := rfl
set_option maxRecDepth 100000 in
theorem se_161 : cE[161]? = some (kce i0 l0 I0 J0 37 51 P0 193) := rfl
set_option maxRecDepth 100000 in
theorem se_162 : cE[162]? = some (kce i0 l0 I0 J0 37 51 P0 194) := rfl
set_option maxRecDepth 100000 in
theorem se_163 : cE[163]? = some (kce i0 l0 I0 J0 37 51 P0 195) := rfl
set_option maxRecDepth 100000 in
theorem se_164 : cE[164]? = some (kce i0 l0 I0 J0 37 51 P0 196) := rfl
set_option maxRecDepth 100000 in
theorem se_165 : cE[165]? = some (kce i0 l0 I0 J0 37 51 P0 197) := rfl
set_option maxRecDepth 100000 in
theorem se_166 : cE[166]? = some (kce i0 l0 I0 J0 37 51 P0 198) := rfl
set_option maxRecDepth 100000 in
theorem se_167 : cE[167]? = some (kce i0 l0 I0 J0 37 51 P0 199) := rfl
set_option maxRecDepth 100000 in
theorem se_168 : cE[168]? = some (kce i0 l0 I0 J0 37 51 P0 200) := rfl
set_option maxRecDepth 100000 in
theorem se_169 : cE[169]? = some (kce i0 l0 I0 J0 37 51 P0 201) := rfl
set_option maxRecDepth 100000 in
theorem se_170 : cE[170]? = some (kce i0 l0 I0 J0 37 51 P0 202) := rfl
set_option maxRecDepth 100000 in
theorem se_171 : cE[171]? = some (kce i0 l0 I0 J0 37 51 P0 203) := rfl
set_option maxRecDepth 100000 in
theorem se_172 : cE[172]? = some (kce i0 l0 I0 J0 37 51 P0 204) := rfl
set_option maxRecDepth 100000 in
theorem se_173 : cE[173]? = some (kce i0 l0 I0 J0 37 51 P0 205) := rfl
set_option maxRecDepth 100000 in
theorem se_174 : cE[174]? = some (kce i0 l0 I0 J0 37 51 P0 206) := rfl
set_option maxRecDepth 100000 in
theorem se_175 : cE[175]? = some (kce i0 l0 I0 J0 37 51 P0 207) := rfl
set_option maxRecDepth 100000 in
theorem se_176 : cE[176]? = some (kce i0 l0 I0 J0 37 51 P0 208) := rfl
set_option maxRecDepth 100000 in
theorem se_177 : cE[177]? = some (kce i0 l0 I0 J0 37 51 P0 209) := rfl
set_option maxRecDepth 100000 in
theorem se_178 : cE[178]? = some (kce i0 l0 I0 J0 37 51 P0 210) := rfl
set_option maxRecDepth 100000 in
theorem se_179 : cE[179]? = some (kce i0 l0 I0 J0 37 51 P0 211) := rfl
set_option maxRecDepth 100000 in
theorem se_180 : cE[180]? = some (kce i0 l0 I0 J0 37 51 P0 212) := rfl
set_option maxRecDepth 100000 in
theorem se_181 : cE[181]? = some (kce i0 l0 I0 J0 37 51 P0 213) := rfl
set_option maxRecDepth 100000 in
theorem se_182 : cE[182]? = some (kce i0 l0 I0 J0 37 51 P0 214) := rfl
set_option maxRecDepth 100000 in
theorem se_183 : cE[183]? = some (kce i0 l0 I0 J0 37 51 P0 215) := rfl
set_option maxRecDepth 100000 in
theorem se_184 : cE[184]? = some (kce i0 l0 I0 J0 37 51 P0 216) := rfl
set_option maxRecDepth 100000 in
theorem se_185 : cE[185]? = some (kce i0 l0 I0 J0 37 51 P0 217) := rfl
set_option maxRecDepth 100000 in
theorem se_186 : cE[186]? = some (kce i0 l0 I0 J0 37 51 P0 218) := rfl
set_option maxRecDepth 100000 in
theorem se_187 : cE[187]? = some (kce i0 l0 I0 J0 37 51 P0 219) := rfl
set_option maxRecDepth 100000 in
theorem se_188 : cE[188]? = some (kce i0 l0 I0 J0 37 51 P0 220) := rfl
set_option maxRecDepth 100000 in
theorem se_189 : cE[189]? = some (kce i0 l0 I0 J0 37 51 P0 221) := rfl
set_option maxRecDepth 100000 in
theorem se_190 : cE[190]? = some (kce i0 l0 I0 J0 37 51 P0 222) := rfl
set_option maxRecDepth 100000 in
theorem se_191 : cE[191]? = some (kce i0 l0 I0 J0 37 51 P0 223) := rfl
set_option maxRecDepth 100000 in
theorem se_192 : cE[192]? = some (kce i0 l0 I0 J0 37 51 P0 224) := rfl
set_option maxRecDepth 100000 in
theorem se_193 : cE[193]? = some (kce i0 l0 I0 J0 37 51 P0 225) := rfl
set_option maxRecDepth 100000 in
theorem se_194 : cE[194]? = some (kce i0 l0 I0 J0 37 51 P0 226) := rfl
set_option maxRecDepth 100000 in
theorem se_195 : cE[195]? = some (kce i0 l0 I0 J0 37 51 P0 227) := rfl
set_option maxRecDepth 100000 in
theorem se_196 : cE[196]? = some (kce i0 l0 I0 J0 37 51 P0 228) := rfl
set_option maxRecDepth 100000 in
theorem se_197 : cE[197]? = some (kce i0 l0 I0 J0 37 51 P0 229) := rfl
set_option maxRecDepth 100000 in
theorem se_198 : cE[198]? = some (kce i0 l0 I0 J0 37 51 P0 230) := rfl
set_option maxRecDepth 100000 in
theorem se_199 : cE[199]? = some (kce i0 l0 I0 J0 37 51 P0 231) := rfl
set_option maxRecDepth 100000 in
theorem se_200 : cE[200]? = some (kce i0 l0 I0 J0 37 51 P0 232) := rfl
set_option maxRecDepth 100000 in
theorem se_201 : cE[201]? = some (kce i0 l0 I0 J0 37 51 P0 233) := rfl
set_option maxRecDepth 100000 in
theorem se_202 : cE[202]? = some (kce i0 l0 I0 J0 37 51 P0 234) := rfl
set_option maxRecDepth 100000 in
theorem se_203 : cE[203]? = some (kce i0 l0 I0 J0 37 51 P0 235) := rfl
set_option maxRecDepth 100000 in
theorem se_204 : cE[204]? = some (kce i0 l0 I0 J0 37 51 P0 236) := rfl
set_option maxRecDepth 100000 in
theorem se_205 : cE[205]? = some (kce i0 l0 I0 J0 37 51 P0 237) := rfl
set_option maxRecDepth 100000 in
theorem se_206 : cE[206]? = some (kce i0 l0 I0 J0 37 51 P0 238) := rfl
set_option maxRecDepth 100000 in
theorem se_207 : cE[207]? = some (kce i0 l0 I0 J0 37 51 P0 239) := rfl
set_option maxRecDepth 100000 in
theorem se_208 : cE[208]? = some (kce i0 l0 I0 J0 37 51 P0 240) := rfl
set_option maxRecDepth 100000 in
theorem se_209 : cE[209]? = some (kce i0 l0 I0 J0 37 51 P0 241) := rfl
