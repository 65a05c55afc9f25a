/-! OWN: the law runs to its end, from the start -/
set_option maxRecDepth 100000 in
theorem se : ∀ k, k < 210 → cE[k]? = some (kce i0 l0 I0 J0 37 51 P0 (k + 32)) := by
  intro k hk
  match k, hk with
  | 0, _ => exact se_0
  | 1, _ => exact se_1
  | 2, _ => exact se_2
  | 3, _ => exact se_3
  | 4, _ => exact se_4
  | 5, _ => exact se_5
  | 6, _ => exact se_6
  | 7, _ => exact se_7
  | 8, _ => exact se_8
  | 9, _ => exact se_9
  | 10, _ => exact se_10
  | 11, _ => exact se_11
  | 12, _ => exact se_12
  | 13, _ => exact se_13
  | 14, _ => exact se_14
  | 15, _ => exact se_15
  | 16, _ => exact se_16
  | 17, _ => exact se_17
  | 18, _ => exact se_18
  | 19, _ => exact se_19
  | 20, _ => exact se_20
  | 21, _ => exact se_21
  | 22, _ => exact se_22
  | 23, _ => exact se_23
  | 24, _ => exact se_24
  | 25, _ => exact se_25
  | 26, _ => exact se_26
  | 27, _ => exact se_27
  | 28, _ => exact se_28
  | 29, _ => exact se_29
  | 30, _ => exact se_30
  | 31, _ => exact se_31
  | 32, _ => exact se_32
  | 33, _ => exact se_33
  | 34, _ => exact se_34
  | 35, _ => exact se_35
  | 36, _ => exact se_36
  | 37, _ => exact se_37
  | 38, _ => exact se_38
  | 39, _ => exact se_39
  | 40, _ => exact se_40
  | 41, _ => exact se_41
  | 42, _ => exact se_42
  | 43, _ => exact se_43
  | 44, _ => exact se_44
  | 45, _ => exact se_45
  | 46, _ => exact se_46
  | 47, _ => exact se_47
  | 48, _ => exact se_48
  | 49, _ => exact se_49
  | 50, _ => exact se_50
  | 51, _ => exact se_51
  | 52, _ => exact se_52
  | 53, _ => exact se_53
  | 54, _ => exact se_54
  | 55, _ => exact se_55
  | 56, _ => exact se_56
  | 57, _ => exact se_57
  | 58, _ => exact se_58
  | 59, _ => exact se_59
  | 60, _ => exact se_60
  | 61, _ => exact se_61
  | 62, _ => exact se_62
  | 63, _ => exact se_63
  | 64, _ => exact se_64
  | 65, _ => exact se_65
  | 66, _ => exact se_66
  | 67, _ => exact se_67
  | 68, _ => exact se_68
  | 69, _ => exact se_69
  | 70, _ => exact se_70
  | 71, _ => exact se_71
  | 72, _ => exact se_72
  | 73, _ => exact se_73
  | 74, _ => exact se_74
  | 75, _ => exact se_75
  | 76, _ => exact se_76
  | 77, _ => exact se_77
  | 78, _ => exact se_78
  | 79, _ => exact se_79
  | 80, _ => exact se_80
  | 81, _ => exact se_81
  | 82, _ => exact se_82
  | 83, _ => exact se_83
  | 84, _ => exact se_84
  | 85, _ => exact se_85
  | 86, _ => exact se_86
  | 87, _ => exact se_87
  | 88, _ => exact se_88
  | 89, _ => exact se_89
  | 90, _ => exact se_90
  | 91, _ => exact se_91
  | 92, _ => exact se_92
  | 93, _ => exact se_93
  | 94, _ => exact se_94
  | 95, _ => exact se_95
  | 96, _ => exact se_96
  | 97, _ => exact se_97
  | 98, _ => exact se_98
  | 99, _ => exact se_99
  | 100, _ => exact se_100
  | 101, _ => exact se_101
  | 102, _ => exact se_102
  | 103, _ => exact se_103
  | 104, _ => exact se_104
  | 105, _ => exact se_105
  | 106, _ => exact se_106
  | 107, _ => exact se_107
  | 108, _ => exact se_108
  | 109, _ => exact se_109
  | 110, _ => exact se_110
  | 111, _ => exact se_111
  | 112, _ => exact se_112
  | 113, _ => exact se_113
  | 114, _ => exact se_114
  | 115, _ => exact se_115
  | 116, _ => exact se_116
  | 117, _ => exact se_117
  | 118, _ => exact se_118
  | 119, _ => exact se_119
  | 120, _ => exact se_120
  | 121, _ => exact se_121
  | 122, _ => exact se_122
  | 123, _ => exact se_123
  | 124, _ => exact se_124
  | 125, _ => exact se_125
  | 126, _ => exact se_126
  | 127, _ => exact se_127
  | 128, _ => exact se_128
  | 129, _ => exact se_129
  | 130, _ => exact se_130
  | 131, _ => exact se_131
  | 132, _ => exact se_132
  | 133, _ => exact se_133
  | 134, _ => exact se_134
  | 135, _ => exact se_135
  | 136, _ => exact se_136
  | 137, _ => exact se_137
  | 138, _ => exact se_138
  | 139, _ => exact se_139
  | 140, _ => exact se_140
  | 141, _ => exact se_141
  | 142, _ => exact se_142
  | 143, _ => exact se_143
  | 144, _ => exact se_144
  | 145, _ => exact se_145
  | 146, _ => exact se_146
  | 147, _ => exact se_147
  | 148, _ => exact se_148
  | 149, _ => exact se_149
  | 150, _ => exact se_150
  | 151, _ => exact se_151
  | 152, _ => exact se_152
  | 153, _ => exact se_153
  | 154, _ => exact se_154
  | 155, _ => exact se_155
  | 156, _ => exact se_156
  | 157, _ => exact se_157
  | 158, _ => exact se_158
  | 159, _ => exact se_159
  | 160, _ => exact se_160
  | 161, _ => exact se_161
  | 162, _ => exact se_162
  | 163, _ => exact se_163
  | 164, _ => exact se_164
  | 165, _ => exact se_165
  | 166, _ => exact se_166
  | 167, _ => exact se_167
  | 168, _ => exact se_168
  | 169, _ => exact se_169
  | 170, _ => exact se_170
  | 171, _ => exact se_171
  | 172, _ => exact se_172
  | 173, _ => exact se_173
  | 174, _ => exact se_174
  | 175, _ => exact se_175
  | 176, _ => exact se_176
  | 177, _ => exact se_177
  | 178, _ => exact se_178
  | 179, _ => exact se_179
  | 180, _ => exact se_180
  | 181, _ => exact se_181
  | 182, _ => exact se_182
  | 183, _ => exact se_183
  | 184, _ => exact se_184
  | 185, _ => exact se_185
  | 186, _ => exact se_186
  | 187, _ => exact se_187
  | 188, _ => exact se_188
  | 189, _ => exact se_189
  | 190, _ => exact se_190
  | 191, _ => exact se_191
  | 192, _ => exact se_192
  | 193, _ => exact se_193
  | 194, _ => exact se_194
  | 195, _ => exact se_195
  | 196, _ => exact se_196
  | 197, _ => exact se_197
  | 198, _ => exact se_198
  | 199, _ => exact se_199
  | 200, _ => exact se_200
  | 201, _ => exact se_201
  | 202, _ => exact se_202
  | 203, _ => exact se_203
  | 204, _ => exact se_204
  | 205, _ => exact se_205
  | 206, _ => exact se_206
  | 207, _ => exact se_207
  | 208, _ => exact se_208
  | 209, _ => exact se_209
theorem cX12_l (a : Nat) : (cX12 a).length = 25 := rfl
theorem khc_hi {L q : Nat} {xs : Nat → Int32} (h : 17 ≤ q) : khc L xs q = none := by
  unfold khc
  rw [if_neg (by omega), if_neg (by omega), if_neg (by omega), if_neg (by omega), if_neg (by omega), if_neg (by omega), if_neg (by omega)]
theorem h_start (L : Nat) (xs : Nat → Int32) : hq (khc L xs) cX11 (cX12 217) 23639 = mH (khc L xs, 242, 23639) i0 l0 I0 J0 37 51 P0 := by
  have hl : (cX11 ++ cX12 217).length = 210 := by rw [List.length_append, cX11_l, cX12_l]
  unfold hq hl
  refine Prod.ext (funext fun q => ?_) (Prod.ext ?_ rfl)
  · show (if q < 32 then khc L xs q else (cX11 ++ cX12 217)[q - 32]?) = if 32 ≤ q ∧ q < 242 then some (kce i0 l0 I0 J0 37 51 P0 q) else khc L xs q
    by_cases h1 : q < 32
    · rw [if_pos h1, if_neg (by omega)]
    · rw [if_neg h1]
      by_cases h2 : q < 242
      · rw [if_pos ⟨by omega, h2⟩, cE_e, se (q - 32) (by omega), show q - 32 + 32 = q by omega]
      · rw [if_neg (by omega), khc_hi (by omega), List.getElem?_eq_none (by rw [hl]; omega)]
  · show 32 + (cX11 ++ cX12 217).length = 242
    rw [hl]
theorem h_0 (L : Nat) (xs : Nat → Int32) : kh0 L xs = hq (khc L xs) [] [] 0 := by
  unfold kh0 hq hl
  refine Prod.ext (funext fun q => ?_) rfl
  show khc L xs q = if q < 32 then khc L xs q else ([] ++ [] : List kE)[q - 32]?
  by_cases h1 : q < 32
  · rw [if_pos h1]
  · rw [if_neg h1, khc_hi (by omega)]
    rfl
theorem law_start (d L : Nat) (xs : Nat → Int32) : rn (d + 4) mL_law [.ref 0] (kh0 L xs) = ex (d + 3) mL_law 18 [some (.ref 0), some (.ref 32), some (.ref 217), some (.int (nI 0))] [] (mH (khc L xs, 242, 23639) i0 l0 I0 J0 37 51 P0) := by
  have e1 : knew (hq (khc L xs) [] [] 0) (.inr (12, kdef 12)) (kdef 12).length = hq (khc L xs) [] [(.inr (12, kdef 12))] 18 := hq_new
  have e2 : knew (hq (khc L xs) [] cX11 12603) (.inr (13, kdef 13)) (kdef 13).length = hq (khc L xs) cX11 [(.inr (13, kdef 13))] 12657 := by
    rw [hq_new]
    show hq (khc L xs) [] (cX11 ++ [(.inr (13, kdef 13))]) 12657 = _
    rw [← hq_sp (C := []) (D0 := cX11) (D1 := [(.inr (13, kdef 13))])]
    rfl
  have t1 : (hq (khc L xs) [] [] 0).2.1 = 32 := rfl
  have t2 : (hq (khc L xs) [] cX11 12603).2.1 = 217 := by
    rw [hq_top, cX11_l]
    rfl
  have i2 := i_X12 (d := d + 2) (s := 12657) (b := khc L xs) (C := cX11)
  rw [show 32 + cX11.length = 217 by rw [cX11_l]] at i2
  rw [L_law_E, h_0, L_law_0, t1, e1, L_law_3, L_law_4, i_X11]
  show ex (d + 3) mL_law 7 [some (.ref 0), none, none, none] [.ref 32] (hq (khc L xs) [] cX11 12603) = _
  rw [L_law_7, kkl_r, L_law_8, t2, e2, L_law_11, L_law_12, i2]
  show ex (d + 3) mL_law 15 [some (.ref 0), some (.ref 32), none, none] [.ref 217] (hq (khc L xs) cX11 (cX12 217) 23639) = _
  rw [L_law_15, kkl_r, L_law_16, L_law_17, kkl_r, h_start]
  rfl
/-- the file at the start -/
def F0 (j : Nat) : Nat := ([100, 0, 1, 4, 500, 8, 10, 40, 240] : List Nat).getD j 0
theorem F0_ok : okF F0 := by
  have k0 : knL F0 = [] := rfl
  refine ⟨⟨by decide, fun k hk => ?_, fun j k _ hk => ?_, by decide, by decide⟩, ⟨by decide, by decide, by decide, by decide, by decide, by decide⟩, ⟨by decide, fun k hk => ?_⟩, ?_, ⟨by decide, by decide, by decide, by decide, by decide, by decide⟩, ⟨by decide, fun j hj => ?_, fun j k _ hk => ?_⟩⟩
  · exact absurd hk (Nat.not_lt_zero k)
  · exact absurd hk (Nat.not_lt_zero k)
  · exact absurd hk (Nat.not_lt_zero k)
  · rw [k0]
    exact ⟨by decide, fun y hy => by cases hy, fun y hy => by cases hy, List.Pairwise.nil⟩
  · exact absurd hj (Nat.not_lt_zero j)
  · exact absurd hk (Nat.not_lt_zero k)
theorem fF0_e (j : Nat) : fF0 j = nI (F0 j) := by
  have : j = 0 ∨ j = 1 ∨ j = 2 ∨ j = 3 ∨ j = 4 ∨ j = 5 ∨ j = 6 ∨ j = 7 ∨ j = 8 ∨ 9 ≤ j := by omega
  rcases this with rfl | rfl | rfl | rfl | rfl | rfl | rfl | rfl | rfl | h
  case inr.inr.inr.inr.inr.inr.inr.inr.inr =>
    have e : F0 j = 0 := by
      unfold F0
      rw [List.getD_eq_getElem?_getD, List.getElem?_eq_none (by simpa using h)]
      rfl
    rw [e]
    unfold fF0
    simp only [upd]
    repeat rw [if_neg (by omega)]
    rfl
  all_goals rfl
set_option maxRecDepth 100000 in
theorem s_218 : I0 218 = fF0 := rfl
set_option maxRecDepth 100000 in
theorem s_words : ∀ j, j < 25 → I0 241 j = nI (wds.getD j 0) := by
  have e : I0 241 = (upd (upd (upd (upd (upd (upd (upd (upd (upd (upd (upd (upd (upd (upd (upd (upd (upd (upd (upd (upd (upd (upd (upd (upd (upd (fun _ => 0) 0 (vp_nar .byte 111)) 1 (vp_nar .byte 117)) 2 (vp_nar .byte 116)) 3 (vp_nar .byte 101)) 4 (vp_nar .byte 114)) 5 (vp_nar .byte 105)) 6 (vp_nar .byte 110)) 7 (vp_nar .byte 110)) 8 (vp_nar .byte 101)) 9 (vp_nar .byte 114)) 10 (vp_nar .byte 98)) 11 (vp_nar .byte 97)) 12 (vp_nar .byte 108)) 13 (vp_nar .byte 108)) 14 (vp_nar .byte 0)) 15 (vp_nar .byte 99)) 16 (vp_nar .byte 97)) 17 (vp_nar .byte 103)) 18 (vp_nar .byte 101)) 19 (vp_nar .byte 0)) 20 (vp_nar .byte 115)) 21 (vp_nar .byte 104)) 22 (vp_nar .byte 97)) 23 (vp_nar .byte 102)) 24 (vp_nar .byte 116)) := rfl
  rw [e]
  decide +kernel
set_option maxRecDepth 100000 in
theorem s_i : i0 217 3 = nI 0 ∧ i0 217 5 = nI 0 ∧ i0 37 0 = nI 8 ∧ i0 37 1 = nI 10 ∧ i0 37 2 = nI 40 ∧ i0 37 3 = nI 240 ∧ i0 39 2 = nI 0 ∧ i0 42 2 = nI 0 ∧ i0 45 2 = nI 0 ∧ i0 48 2 = nI 0 ∧ i0 66 2 = nI 0 ∧ i0 91 4 = nI 0 ∧ i0 32 4 = nI 0 ∧ i0 32 5 = nI 0 ∧ i0 33 1 = nI 0 := ⟨rfl, rfl, rfl, rfl, rfl, rfl, rfl, rfl, rfl, rfl, rfl, rfl, rfl, rfl, rfl⟩
set_option maxRecDepth 100000 in
theorem s_I : I0 38 = (upd (upd (upd (upd (upd (fun _ => 0) 0 100) 1 0) 2 1) 3 4) 4 500) ∧ I0 92 = fun _ => 0 := ⟨rfl, rfl⟩
theorem RInv_0 : RInv i0 I0 F0 [] (fun _ => 0) 0 := by
  refine ⟨fun j _ => ?_, F0_ok, ⟨s_i.1, by decide, fun n j hn => absurd hn (Nat.not_lt_zero n)⟩, fun G hG => (by cases hG), ⟨s_i.2.1, by decide, fun j hj => absurd hj (Nat.not_lt_zero j)⟩, s_words⟩
  rw [s_218]
  exact fF0_e j
theorem CInv_0 : CInv i0 I0 37 51 P0 F0 [] (fun _ => 0) 0 := by
  obtain ⟨-, -, a0, a1, a2, a3, a4, a5, a6, a7, a8, a9, b0, b1, b2⟩ := s_i
  have hP : ∀ k, k < 8 → P0 k = stB (k + 2) := by decide
  have kn : knL F0 = [] := rfl
  have sn : seenL F0 = [] := rfl
  refine ⟨⟨⟨0, by decide, rfl⟩, ⟨1, by decide, rfl⟩, by decide, fun k hk => ⟨⟨k + 2, by omega, hP k hk⟩, ?_, ?_⟩, fun j k h1 h2 => ?_⟩, F0_ok, ⟨⟨a0, a1, a2, a3⟩, fun k hk => ?_, ⟨a4, fun k hk => absurd hk (Nat.not_lt_zero k)⟩, ?_, ⟨a6, fun k hk => absurd hk (Nat.not_lt_zero k)⟩, ⟨a7, fun k hk => absurd hk (Nat.not_lt_zero k)⟩⟩, ?_, ⟨fun k _ => Or.inl ?_, Or.inl a9⟩, ⟨0, by decide, b0, b1, by decide, fun n hn => absurd hn (Nat.not_lt_zero n)⟩, ⟨b2, by decide, fun j hj => absurd hj (Nat.not_lt_zero j)⟩⟩
  · unfold P0; rw [if_pos hk]; omega
  · unfold P0; rw [if_pos hk]; omega
  · unfold P0; rw [if_pos h2, if_pos (by omega)]; omega
  · rw [s_I.1]
    have : k = 0 ∨ k = 1 ∨ k = 2 ∨ k = 3 ∨ k = 4 := by omega
    rcases this with rfl | rfl | rfl | rfl | rfl <;> rfl
  · rw [kn]
    exact ⟨a5, fun j hj => absurd hj (Nat.not_lt_zero j)⟩
  · rw [sn]
    exact ⟨a8, fun j hj => absurd hj (Nat.not_lt_zero j)⟩
  · rw [s_I.2]
    rfl
/-- what is there before, while the law runs -/
def hGd (L : Nat) (xs : Nat → Int32) (h : kH) : Prop := hScr h L xs ∧ hStr h ∧ 242 ≤ h.2.1
theorem hGd.lo {L : Nat} {xs : Nat → Int32} {h h' : kH} (g : hGd L xs h) (w : ∀ q, q < 32 → h'.1 q = h.1 q) (t : h.2.1 ≤ h'.2.1) : hGd L xs h' := by
  obtain ⟨⟨g1, ⟨f, g2, g3⟩, ⟨f', g4, g5⟩⟩, g6, g7⟩ := g
  exact ⟨⟨by rw [w 0 (by decide)]; exact g1, ⟨f, by rw [w 1 (by decide)]; exact g2, g3⟩, ⟨f', by rw [w 2 (by decide)]; exact g4, g5⟩⟩, g6.lo w, by omega⟩
theorem hGd_0 (L : Nat) (xs : Nat → Int32) : hGd L xs (khc L xs, 242, 23639) := by
  refine ⟨⟨rfl, ⟨klow, rfl, by decide⟩, ⟨khigh, rfl, by decide⟩⟩, ⟨fun k hk => ?_, rfl, rfl⟩, Nat.le_refl _⟩
  have : k = 0 ∨ k = 1 ∨ k = 2 ∨ k = 3 ∨ k = 4 ∨ k = 5 := by omega
  rcases this with rfl | rfl | rfl | rfl | rfl | rfl <;> exact ⟨rfl, rfl⟩
theorem hrun (L : Nat) (xs : Nat → Int32) (hL : L ≤ 3072) : ∃ hF : kH, rn (8 + 1) mL_law [.ref 0] (kh0 L xs) = some (some (.int 1), hF) ∧ hF.2.1 ≤ 32 + 600000 ∧ hF.2.2 ≤ 7302250 := by
  have hl := law_loop (d := 1) (L := L) (B1 := 3) (B2 := 54) (M1 := 242 + 3 * 512) (M2 := 23639 + 54 * 512) (xs := xs) (G := hGd L xs) (fun h g => g.1) hL
    (fun h g {i} {l} {I} {J} {nw} {df} {P} {q} {ln} {tx} {p} {acc} h1 h2 h3 h4 h5 h6 h7 h8 h9 => c_readStep (d := 1) g.2.1 h1 h2 h3 h4 h5 h6 h7 h8 h9)
    (fun h i l I J nw df P F PS T tc x z g hC => by
      obtain ⟨r, e, h', w1, w2, w3, w4, hr⟩ := c_reportG (d := 0) g.2.1 g.2.2 hC x z
      exact ⟨h', g.lo w1 w2, w3, w4, r, e, hr⟩)
    512 0 (khc L xs, 242, 23639) i0 l0 I0 J0 37 51 P0 F0 [] (fun _ => 0) 0 (by omega) (by decide) (hGd_0 L xs) RInv_0 CInv_0 (by decide) (by decide)
  obtain ⟨r, e, e1, e2, e3⟩ := hl
  obtain ⟨v, hF⟩ := r
  refine ⟨hF, ?_, Nat.le_trans e2 (by decide), Nat.le_trans e3 (by decide)⟩
  show rn (5 + 4) mL_law [.ref 0] (kh0 L xs) = _
  rw [law_start 5 L xs]
  have e1 : v = some (.int 1) := e1
  subst e1
  exact e
