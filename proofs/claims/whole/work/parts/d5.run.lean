/-! OWN: the law runs to its end, from the start -/
theorem all_lt {P : Nat → Prop} {n : Nat} (a : ∀ k, k < n → P k) (b : P n) : ∀ k, k < n + 1 → P k := fun k h => (Nat.lt_succ_iff_lt_or_eq.mp h).elim (a k) (fun e => e ▸ b)
def sP (k : Nat) : Prop := cE[k]? = some (kce i0 l0 I0 J0 37 51 P0 (k + 32))
set_option maxRecDepth 100000 in
theorem se : ∀ k, k < 210 → sP k := by
  refine all_lt (n := 209) ?_ se_209
  refine all_lt (n := 208) ?_ se_208
  refine all_lt (n := 207) ?_ se_207
  refine all_lt (n := 206) ?_ se_206
  refine all_lt (n := 205) ?_ se_205
  refine all_lt (n := 204) ?_ se_204
  refine all_lt (n := 203) ?_ se_203
  refine all_lt (n := 202) ?_ se_202
  refine all_lt (n := 201) ?_ se_201
  refine all_lt (n := 200) ?_ se_200
  refine all_lt (n := 199) ?_ se_199
  refine all_lt (n := 198) ?_ se_198
  refine all_lt (n := 197) ?_ se_197
  refine all_lt (n := 196) ?_ se_196
  refine all_lt (n := 195) ?_ se_195
  refine all_lt (n := 194) ?_ se_194
  refine all_lt (n := 193) ?_ se_193
  refine all_lt (n := 192) ?_ se_192
  refine all_lt (n := 191) ?_ se_191
  refine all_lt (n := 190) ?_ se_190
  refine all_lt (n := 189) ?_ se_189
  refine all_lt (n := 188) ?_ se_188
  refine all_lt (n := 187) ?_ se_187
  refine all_lt (n := 186) ?_ se_186
  refine all_lt (n := 185) ?_ se_185
  refine all_lt (n := 184) ?_ se_184
  refine all_lt (n := 183) ?_ se_183
  refine all_lt (n := 182) ?_ se_182
  refine all_lt (n := 181) ?_ se_181
  refine all_lt (n := 180) ?_ se_180
  refine all_lt (n := 179) ?_ se_179
  refine all_lt (n := 178) ?_ se_178
  refine all_lt (n := 177) ?_ se_177
  refine all_lt (n := 176) ?_ se_176
  refine all_lt (n := 175) ?_ se_175
  refine all_lt (n := 174) ?_ se_174
  refine all_lt (n := 173) ?_ se_173
  refine all_lt (n := 172) ?_ se_172
  refine all_lt (n := 171) ?_ se_171
  refine all_lt (n := 170) ?_ se_170
  refine all_lt (n := 169) ?_ se_169
  refine all_lt (n := 168) ?_ se_168
  refine all_lt (n := 167) ?_ se_167
  refine all_lt (n := 166) ?_ se_166
  refine all_lt (n := 165) ?_ se_165
  refine all_lt (n := 164) ?_ se_164
  refine all_lt (n := 163) ?_ se_163
  refine all_lt (n := 162) ?_ se_162
  refine all_lt (n := 161) ?_ se_161
  refine all_lt (n := 160) ?_ se_160
  refine all_lt (n := 159) ?_ se_159
  refine all_lt (n := 158) ?_ se_158
  refine all_lt (n := 157) ?_ se_157
  refine all_lt (n := 156) ?_ se_156
  refine all_lt (n := 155) ?_ se_155
  refine all_lt (n := 154) ?_ se_154
  refine all_lt (n := 153) ?_ se_153
  refine all_lt (n := 152) ?_ se_152
  refine all_lt (n := 151) ?_ se_151
  refine all_lt (n := 150) ?_ se_150
  refine all_lt (n := 149) ?_ se_149
  refine all_lt (n := 148) ?_ se_148
  refine all_lt (n := 147) ?_ se_147
  refine all_lt (n := 146) ?_ se_146
  refine all_lt (n := 145) ?_ se_145
  refine all_lt (n := 144) ?_ se_144
  refine all_lt (n := 143) ?_ se_143
  refine all_lt (n := 142) ?_ se_142
  refine all_lt (n := 141) ?_ se_141
  refine all_lt (n := 140) ?_ se_140
  refine all_lt (n := 139) ?_ se_139
  refine all_lt (n := 138) ?_ se_138
  refine all_lt (n := 137) ?_ se_137
  refine all_lt (n := 136) ?_ se_136
  refine all_lt (n := 135) ?_ se_135
  refine all_lt (n := 134) ?_ se_134
  refine all_lt (n := 133) ?_ se_133
  refine all_lt (n := 132) ?_ se_132
  refine all_lt (n := 131) ?_ se_131
  refine all_lt (n := 130) ?_ se_130
  refine all_lt (n := 129) ?_ se_129
  refine all_lt (n := 128) ?_ se_128
  refine all_lt (n := 127) ?_ se_127
  refine all_lt (n := 126) ?_ se_126
  refine all_lt (n := 125) ?_ se_125
  refine all_lt (n := 124) ?_ se_124
  refine all_lt (n := 123) ?_ se_123
  refine all_lt (n := 122) ?_ se_122
  refine all_lt (n := 121) ?_ se_121
  refine all_lt (n := 120) ?_ se_120
  refine all_lt (n := 119) ?_ se_119
  refine all_lt (n := 118) ?_ se_118
  refine all_lt (n := 117) ?_ se_117
  refine all_lt (n := 116) ?_ se_116
  refine all_lt (n := 115) ?_ se_115
  refine all_lt (n := 114) ?_ se_114
  refine all_lt (n := 113) ?_ se_113
  refine all_lt (n := 112) ?_ se_112
  refine all_lt (n := 111) ?_ se_111
  refine all_lt (n := 110) ?_ se_110
  refine all_lt (n := 109) ?_ se_109
  refine all_lt (n := 108) ?_ se_108
  refine all_lt (n := 107) ?_ se_107
  refine all_lt (n := 106) ?_ se_106
  refine all_lt (n := 105) ?_ se_105
  refine all_lt (n := 104) ?_ se_104
  refine all_lt (n := 103) ?_ se_103
  refine all_lt (n := 102) ?_ se_102
  refine all_lt (n := 101) ?_ se_101
  refine all_lt (n := 100) ?_ se_100
  refine all_lt (n := 99) ?_ se_99
  refine all_lt (n := 98) ?_ se_98
  refine all_lt (n := 97) ?_ se_97
  refine all_lt (n := 96) ?_ se_96
  refine all_lt (n := 95) ?_ se_95
  refine all_lt (n := 94) ?_ se_94
  refine all_lt (n := 93) ?_ se_93
  refine all_lt (n := 92) ?_ se_92
  refine all_lt (n := 91) ?_ se_91
  refine all_lt (n := 90) ?_ se_90
  refine all_lt (n := 89) ?_ se_89
  refine all_lt (n := 88) ?_ se_88
  refine all_lt (n := 87) ?_ se_87
  refine all_lt (n := 86) ?_ se_86
  refine all_lt (n := 85) ?_ se_85
  refine all_lt (n := 84) ?_ se_84
  refine all_lt (n := 83) ?_ se_83
  refine all_lt (n := 82) ?_ se_82
  refine all_lt (n := 81) ?_ se_81
  refine all_lt (n := 80) ?_ se_80
  refine all_lt (n := 79) ?_ se_79
  refine all_lt (n := 78) ?_ se_78
  refine all_lt (n := 77) ?_ se_77
  refine all_lt (n := 76) ?_ se_76
  refine all_lt (n := 75) ?_ se_75
  refine all_lt (n := 74) ?_ se_74
  refine all_lt (n := 73) ?_ se_73
  refine all_lt (n := 72) ?_ se_72
  refine all_lt (n := 71) ?_ se_71
  refine all_lt (n := 70) ?_ se_70
  refine all_lt (n := 69) ?_ se_69
  refine all_lt (n := 68) ?_ se_68
  refine all_lt (n := 67) ?_ se_67
  refine all_lt (n := 66) ?_ se_66
  refine all_lt (n := 65) ?_ se_65
  refine all_lt (n := 64) ?_ se_64
  refine all_lt (n := 63) ?_ se_63
  refine all_lt (n := 62) ?_ se_62
  refine all_lt (n := 61) ?_ se_61
  refine all_lt (n := 60) ?_ se_60
  refine all_lt (n := 59) ?_ se_59
  refine all_lt (n := 58) ?_ se_58
  refine all_lt (n := 57) ?_ se_57
  refine all_lt (n := 56) ?_ se_56
  refine all_lt (n := 55) ?_ se_55
  refine all_lt (n := 54) ?_ se_54
  refine all_lt (n := 53) ?_ se_53
  refine all_lt (n := 52) ?_ se_52
  refine all_lt (n := 51) ?_ se_51
  refine all_lt (n := 50) ?_ se_50
  refine all_lt (n := 49) ?_ se_49
  refine all_lt (n := 48) ?_ se_48
  refine all_lt (n := 47) ?_ se_47
  refine all_lt (n := 46) ?_ se_46
  refine all_lt (n := 45) ?_ se_45
  refine all_lt (n := 44) ?_ se_44
  refine all_lt (n := 43) ?_ se_43
  refine all_lt (n := 42) ?_ se_42
  refine all_lt (n := 41) ?_ se_41
  refine all_lt (n := 40) ?_ se_40
  refine all_lt (n := 39) ?_ se_39
  refine all_lt (n := 38) ?_ se_38
  refine all_lt (n := 37) ?_ se_37
  refine all_lt (n := 36) ?_ se_36
  refine all_lt (n := 35) ?_ se_35
  refine all_lt (n := 34) ?_ se_34
  refine all_lt (n := 33) ?_ se_33
  refine all_lt (n := 32) ?_ se_32
  refine all_lt (n := 31) ?_ se_31
  refine all_lt (n := 30) ?_ se_30
  refine all_lt (n := 29) ?_ se_29
  refine all_lt (n := 28) ?_ se_28
  refine all_lt (n := 27) ?_ se_27
  refine all_lt (n := 26) ?_ se_26
  refine all_lt (n := 25) ?_ se_25
  refine all_lt (n := 24) ?_ se_24
  refine all_lt (n := 23) ?_ se_23
  refine all_lt (n := 22) ?_ se_22
  refine all_lt (n := 21) ?_ se_21
  refine all_lt (n := 20) ?_ se_20
  refine all_lt (n := 19) ?_ se_19
  refine all_lt (n := 18) ?_ se_18
  refine all_lt (n := 17) ?_ se_17
  refine all_lt (n := 16) ?_ se_16
  refine all_lt (n := 15) ?_ se_15
  refine all_lt (n := 14) ?_ se_14
  refine all_lt (n := 13) ?_ se_13
  refine all_lt (n := 12) ?_ se_12
  refine all_lt (n := 11) ?_ se_11
  refine all_lt (n := 10) ?_ se_10
  refine all_lt (n := 9) ?_ se_9
  refine all_lt (n := 8) ?_ se_8
  refine all_lt (n := 7) ?_ se_7
  refine all_lt (n := 6) ?_ se_6
  refine all_lt (n := 5) ?_ se_5
  refine all_lt (n := 4) ?_ se_4
  refine all_lt (n := 3) ?_ se_3
  refine all_lt (n := 2) ?_ se_2
  refine all_lt (n := 1) ?_ se_1
  refine all_lt (n := 0) ?_ se_0
  exact fun k h => absurd h (Nat.not_lt_zero k)
theorem cX12_l (a : Nat) : (cX12 a).length = 25 := rfl
theorem khc_hi {L q : Nat} {xs : Nat → Int32} (h : 17 ≤ q) : khc L xs q = none := by
  unfold khc
  rw [if_neg (by omega), if_neg (by omega), if_neg (by omega), if_neg (by omega), if_neg (by omega), if_neg (by omega), if_neg (by omega)]
theorem h_start (L : Nat) (xs : Nat → Int32) : hq (khc L xs) cX11 (cX12 217) 23639 = mH (khc L xs, 242, 23639) i0 l0 I0 J0 37 51 P0 := by
  have hl0 : (cX11 ++ cX12 217).length = 210 := by rw [List.length_append, cX11_l, cX12_l]
  unfold hq hl
  refine Prod.ext (funext fun q => ?_) (Prod.ext ?_ rfl)
  · show (if q < 32 then khc L xs q else (cX11 ++ cX12 217)[q - 32]?) = if 32 ≤ q ∧ q < 242 then some (kce i0 l0 I0 J0 37 51 P0 q) else khc L xs q
    by_cases h1 : q < 32
    · rw [if_pos h1, if_neg (by omega)]
    · rw [if_neg h1]
      by_cases h2 : q < 242
      · rw [if_pos ⟨by omega, h2⟩, cE_e, (show cE[q - 32]? = some (kce i0 l0 I0 J0 37 51 P0 (q - 32 + 32)) from se (q - 32) (by omega)), show q - 32 + 32 = q by omega]
      · rw [if_neg (by omega), khc_hi (by omega), List.getElem?_eq_none (by rw [hl0]; omega)]
  · show 32 + (cX11 ++ cX12 217).length = 242
    rw [hl0]
theorem h_0 (L : Nat) (xs : Nat → Int32) : kh0 L xs = hq (khc L xs) [] [] 0 := by
  unfold kh0 hq hl
  refine Prod.ext (funext fun q => ?_) rfl
  show khc L xs q = if q < 32 then khc L xs q else ([] ++ [] : List kE)[q - 32]?
  by_cases h1 : q < 32
  · rw [if_pos h1]
  · rw [if_neg h1, khc_hi (by omega)]
    rfl
set_option maxRecDepth 100000 in
theorem law_start (d L : Nat) (xs : Nat → Int32) : rn (d + 4) mL_law [.ref 0] (kh0 L xs) = ex (d + 3) mL_law 18 [some (.ref 0), some (.ref 32), some (.ref 217), some (.int (nI 0))] [] (mH (khc L xs, 242, 23639) i0 l0 I0 J0 37 51 P0) := by
  have e1 : knew (hq (khc L xs) [] [] 0) (.inr (12, kdef 12)) (kdef 12).length = hq (khc L xs) [] [(.inr (12, kdef 12))] 18 := hq_new
  have e2 : knew (hq (khc L xs) [] cX11 12603) (.inr (13, kdef 13)) (kdef 13).length = hq (khc L xs) cX11 [(.inr (13, kdef 13))] 12657 := by
    rw [hq_new]
    show hq (khc L xs) [] (cX11 ++ [(.inr (13, kdef 13))]) 12657 = _
    rw [← hq_sp (C := []) (D0 := cX11) (D1 := [(.inr (13, kdef 13))])]
    rfl
  have t1 : (hq (khc L xs) [] [] 0).2.1 = 32 := rfl
  have t2 : (hq (khc L xs) [] cX11 12603).2.1 = 217 := by
    rw [hq_top, cX11_l]
    rfl
  have i3 : ∀ a, a = 32 + cX11.length → rn (d + 3) mX12_init [.ref a] (hq (khc L xs) cX11 [(.inr (13, kdef 13))] 12657) = some (none, hq (khc L xs) cX11 (cX12 a) 23639) := by
    intro a ha
    subst ha
    exact i_X12 (d := d + 2) (s := 12657)
  have i2 := i3 217 (by rw [cX11_l])
  rw [L_law_E, h_0, L_law_0, t1, e1, L_law_3, L_law_4, i_X11]
  show ex (d + 3) mL_law 7 [some (.ref 0), none, none, none] [.ref 32] (hq (khc L xs) [] cX11 12603) = _
  rw [L_law_7, kkl_r, L_law_8, t2, e2, L_law_11, L_law_12, i2]
  show ex (d + 3) mL_law 15 [some (.ref 0), some (.ref 32), none, none] [.ref 217] (hq (khc L xs) cX11 (cX12 217) 23639) = _
  rw [L_law_15, kkl_r, L_law_16, L_law_17, kkl_r, h_start]
  rfl
/-- the file at the start -/
def Fz (j : Nat) : Nat := ([100, 0, 1, 4, 500, 8, 10, 40, 240] : List Nat).getD j 0
theorem Fz_ok : okF Fz := by
  have k0 : knL Fz = [] := rfl
  refine ⟨⟨by decide, fun k hk => ?_, fun j k _ hk => ?_, by decide, by decide⟩, ⟨by decide, by decide, by decide, by decide, by decide, by decide⟩, ⟨by decide, fun k hk => ?_⟩, ?_, ⟨by decide, by decide, by decide, by decide, by decide, by decide⟩, ⟨by decide, fun j hj => ?_, fun j k _ hk => ?_⟩⟩
  · exact absurd hk (Nat.not_lt_zero k)
  · exact absurd hk (Nat.not_lt_zero k)
  · exact absurd hk (Nat.not_lt_zero k)
  · rw [k0]
    exact ⟨by decide, fun y hy => (by cases hy), fun y hy => (by cases hy), List.Pairwise.nil⟩
  · exact absurd hj (Nat.not_lt_zero j)
  · exact absurd hk (Nat.not_lt_zero k)
theorem fFz_e (j : Nat) : fF0 j = nI (Fz j) := by
  have : j = 0 ∨ j = 1 ∨ j = 2 ∨ j = 3 ∨ j = 4 ∨ j = 5 ∨ j = 6 ∨ j = 7 ∨ j = 8 ∨ 9 ≤ j := by omega
  rcases this with rfl | rfl | rfl | rfl | rfl | rfl | rfl | rfl | rfl | h
  case inr.inr.inr.inr.inr.inr.inr.inr.inr =>
    have e : Fz j = 0 := by
      unfold Fz
      rw [List.getD_eq_getElem?_getD, List.getElem?_eq_none (by simpa using h)]
      rfl
    rw [e]
    unfold fF0
    simp only [upd]
    repeat rw [if_neg (by omega)]
    rfl
  all_goals rfl
set_option maxRecDepth 100000 in
theorem s_218 : I0 218 = fF0 := rfl
set_option maxRecDepth 100000 in
theorem s_words : ∀ j, j < 25 → I0 241 j = nI (wds.getD j 0) := by
  have e : I0 241 = (upd (upd (upd (upd (upd (upd (upd (upd (upd (upd (upd (upd (upd (upd (upd (upd (upd (upd (upd (upd (upd (upd (upd (upd (upd (fun _ => 0) 0 (vp_nar .byte 111)) 1 (vp_nar .byte 117)) 2 (vp_nar .byte 116)) 3 (vp_nar .byte 101)) 4 (vp_nar .byte 114)) 5 (vp_nar .byte 105)) 6 (vp_nar .byte 110)) 7 (vp_nar .byte 110)) 8 (vp_nar .byte 101)) 9 (vp_nar .byte 114)) 10 (vp_nar .byte 98)) 11 (vp_nar .byte 97)) 12 (vp_nar .byte 108)) 13 (vp_nar .byte 108)) 14 (vp_nar .byte 0)) 15 (vp_nar .byte 99)) 16 (vp_nar .byte 97)) 17 (vp_nar .byte 103)) 18 (vp_nar .byte 101)) 19 (vp_nar .byte 0)) 20 (vp_nar .byte 115)) 21 (vp_nar .byte 104)) 22 (vp_nar .byte 97)) 23 (vp_nar .byte 102)) 24 (vp_nar .byte 116)) := rfl
  rw [e]
  decide +kernel
set_option maxRecDepth 100000 in
theorem s_i : i0 217 3 = nI 0 ∧ i0 217 5 = nI 0 ∧ i0 37 0 = nI 8 ∧ i0 37 1 = nI 10 ∧ i0 37 2 = nI 40 ∧ i0 37 3 = nI 240 ∧ i0 39 2 = nI 0 ∧ i0 42 2 = nI 0 ∧ i0 45 2 = nI 0 ∧ i0 48 2 = nI 0 ∧ i0 66 2 = nI 0 ∧ i0 91 4 = nI 0 ∧ i0 32 4 = nI 0 ∧ i0 32 5 = nI 0 ∧ i0 33 1 = nI 0 := ⟨rfl, rfl, rfl, rfl, rfl, rfl, rfl, rfl, rfl, rfl, rfl, rfl, rfl, rfl, rfl⟩
set_option maxRecDepth 100000 in
theorem s_I : I0 38 = (upd (upd (upd (upd (upd (fun _ => 0) 0 100) 1 0) 2 1) 3 4) 4 500) ∧ I0 92 = fun _ => 0 := ⟨rfl, rfl⟩
theorem RInv_0 : RInv i0 I0 Fz [] (fun _ => 0) 0 := by
  refine ⟨fun j _ => ?_, Fz_ok, ⟨s_i.1, by decide, fun n j hn => absurd hn (Nat.not_lt_zero n)⟩, fun G hG => (by cases hG), ⟨s_i.2.1, by decide, fun j hj => absurd hj (Nat.not_lt_zero j)⟩, s_words⟩
  rw [s_218]
  exact fFz_e j
theorem CInv_0 : CInv i0 I0 37 51 P0 Fz [] (fun _ => 0) 0 := by
  obtain ⟨-, -, a0, a1, a2, a3, a4, a5, a6, a7, a8, a9, b0, b1, b2⟩ := s_i
  have hP : ∀ k, k < 8 → P0 k = stB (k + 2) := by decide
  have kn : knL Fz = [] := rfl
  have sn : seenL Fz = [] := rfl
  refine ⟨⟨⟨0, by decide, rfl⟩, ⟨1, by decide, rfl⟩, by decide, fun k hk => ⟨⟨k + 2, by omega, hP k hk⟩, ?_, ?_⟩, fun j k h1 h2 => ?_⟩, Fz_ok, ⟨⟨a0, a1, a2, a3⟩, fun k hk => ?_, ⟨a4, fun k hk => absurd hk (Nat.not_lt_zero k)⟩, ?_, ⟨a6, fun k hk => absurd hk (Nat.not_lt_zero k)⟩, ⟨a7, fun k hk => absurd hk (Nat.not_lt_zero k)⟩⟩, ?_, ⟨fun k _ => Or.inl ?_, Or.inl a9⟩, ⟨0, by decide, b0, b1, by decide, fun n hn => absurd hn (Nat.not_lt_zero n)⟩, ⟨b2, by decide, fun j hj => absurd hj (Nat.not_lt_zero j)⟩⟩
  · unfold P0; rw [if_pos hk]; omega
  · unfold P0; rw [if_pos hk]; omega
  · unfold P0; rw [if_pos h2, if_pos (by omega)]; omega
  · rw [s_I.1]
    have : k = 0 ∨ k = 1 ∨ k = 2 ∨ k = 3 ∨ k = 4 := by omega
    rcases this with rfl | rfl | rfl | rfl | rfl <;> rfl
  · rw [kn]
    exact ⟨a5, fun j hj => absurd hj (Nat.not_lt_zero j)⟩
  · rw [sn]
    exact ⟨a8, fun j hj => absurd hj (Nat.not_lt_zero j)⟩
  · rw [s_I.2]
    rfl
/-- what is there before, while the law runs -/
def hGd (L : Nat) (xs : Nat → Int32) (h : kH) : Prop := hScr h L xs ∧ hStr h ∧ 242 ≤ h.2.1
theorem hGd.lo {L : Nat} {xs : Nat → Int32} {h h' : kH} (g : hGd L xs h) (w : ∀ q, q < 32 → h'.1 q = h.1 q) (t : h.2.1 ≤ h'.2.1) : hGd L xs h' := by
  obtain ⟨⟨g1, ⟨f, g2, g3⟩, ⟨f', g4, g5⟩⟩, g6, g7⟩ := g
  exact ⟨⟨by rw [w 0 (by decide)]; exact g1, ⟨f, by rw [w 1 (by decide)]; exact g2, g3⟩, ⟨f', by rw [w 2 (by decide)]; exact g4, g5⟩⟩, g6.lo w, by omega⟩
theorem hGd_0 (L : Nat) (xs : Nat → Int32) : hGd L xs (khc L xs, 242, 23639) := by
  refine ⟨⟨rfl, ⟨klow, rfl, by decide⟩, ⟨khigh, rfl, by decide⟩⟩, ⟨fun k hk => ?_, rfl, rfl⟩, Nat.le_refl _⟩
  have : k = 0 ∨ k = 1 ∨ k = 2 ∨ k = 3 ∨ k = 4 ∨ k = 5 := by omega
  rcases this with rfl | rfl | rfl | rfl | rfl | rfl <;> exact ⟨rfl, rfl⟩
theorem hrun (L : Nat) (xs : Nat → Int32) (hL : L ≤ 3072) : ∃ hF : kH, rn (8 + 1) mL_law [.ref 0] (kh0 L xs) = some (some (.int 1), hF) ∧ hF.2.1 ≤ 32 + 600000 ∧ hF.2.2 ≤ 7302250 := by
  have hl := law_loop (d := 1) (L := L) (B1 := 3) (B2 := 54) (M1 := 242 + 3 * 512) (M2 := 23639 + 54 * 512) (xs := xs) (G := hGd L xs) (fun h g => g.1) hL
    (fun h g {i} {l} {I} {J} {nw} {df} {P} {q} {ln} {tx} {p} {acc} h1 h2 h3 h4 h5 h6 h7 h8 h9 => c_readStep (d := 1) g.2.1 h1 h2 h3 h4 h5 h6 h7 h8 h9)
    (fun h i l I J nw df P F PS T tc x z g hC => by
      obtain ⟨r, e, h', w1, w2, w3, w4, hr⟩ := c_reportG (d := 0) g.2.1 g.2.2 hC x z
      exact ⟨h', g.lo w1 w2, w3, w4, r, e, hr⟩)
    512 0 (khc L xs, 242, 23639) i0 l0 I0 J0 37 51 P0 Fz [] (fun _ => 0) 0 (by omega) (by decide) (hGd_0 L xs) RInv_0 CInv_0 (Nat.le_refl _) (Nat.le_refl _)
  obtain ⟨r, e, e1, e2, e3⟩ := hl
  obtain ⟨v, hF⟩ := r
  refine ⟨hF, ?_, Nat.le_trans e2 (by decide), Nat.le_trans e3 (by decide)⟩
  show rn (5 + 4) mL_law [.ref 0] (kh0 L xs) = _
  rw [law_start 5 L xs]
  have e1 : v = some (.int 1) := e1
  subst e1
  exact e
