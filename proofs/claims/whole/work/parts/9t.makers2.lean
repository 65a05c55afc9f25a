/-! OWN: stretches of the maker of the class -/
section MST
variable {d : Nat} {b : Nat → Option kE} {C R : List kE} {fs : List Value} {s n : Nat}
theorem st_4 (hf : fs.length = 18) (hn : R.length + 1 = n) : ex (d + 2) mX11_init 4 [some (.ref (32 + C.length)), none] [] (hq b C ((.inr (12, fs)) :: R) s) = ex (d + 2) mX11_init 15 [some (.ref (32 + C.length)), none] [] (hq b C ((.inr (12, fs.set 0 (.ref (32 + C.length + n)))) :: (R ++ cX9 (32 + C.length + n))) (s + 7 + 240 + 3 + 3)) := by
  have hn' : (((.inr (12, fs)) : kE) :: R).length = n := by rw [List.length_cons]; exact hn
  have e := j_X9 (d := d + 1) (b := b) (C := C) (s := s + 7) (D0 := (.inr (12, fs)) :: R)
  rw [hn'] at e
  rw [X11_init_4, X11_init_5, hq_top, hn', hq_new, X11_init_8, X11_init_9]
  rw [show rn (d + 2) mX9_init [.ref (32 + C.length + n)] (hq b C (((.inr (12, fs)) :: R) ++ [(.inr (10, kdef 10))]) (s + (kdef 10).length)) = _ from e]
  show ex (d + 2) mX11_init 12 [some (.ref (32 + C.length)), none] [.ref (32 + C.length + n), .ref (32 + C.length)] (hq b C ((.inr (12, fs)) :: (R ++ cX9 (32 + C.length + n))) (s + 7 + 240 + 3 + 3)) = _
  rw [X11_init_12, hq_p0 (fs := fs) rfl (by omega) rfl]
  rfl
theorem st_15 (hf : fs.length = 18) (hn : R.length + 1 = n) : ex (d + 2) mX11_init 15 [some (.ref (32 + C.length)), none] [] (hq b C ((.inr (12, fs)) :: R) s) = ex (d + 2) mX11_init 26 [some (.ref (32 + C.length)), none] [] (hq b C ((.inr (12, fs.set 1 (.ref (32 + C.length + n)))) :: (R ++ cX7 (32 + C.length + n))) (s + 9 + 5 + 3 + 10 + 10 + 3 + 200 + 200 + 3 + 10 + 10 + 3 + 20 + 200)) := by
  have hn' : (((.inr (12, fs)) : kE) :: R).length = n := by rw [List.length_cons]; exact hn
  have e := j_X7 (d := d) (b := b) (C := C) (s := s + 9) (D0 := (.inr (12, fs)) :: R)
  rw [hn'] at e
  rw [X11_init_15, X11_init_16, hq_top, hn', hq_new, X11_init_19, X11_init_20]
  rw [show rn (d + 2) mX7_init [.ref (32 + C.length + n)] (hq b C (((.inr (12, fs)) :: R) ++ [(.inr (8, kdef 8))]) (s + (kdef 8).length)) = _ from e]
  show ex (d + 2) mX11_init 23 [some (.ref (32 + C.length)), none] [.ref (32 + C.length + n), .ref (32 + C.length)] (hq b C ((.inr (12, fs)) :: (R ++ cX7 (32 + C.length + n))) (s + 9 + 5 + 3 + 10 + 10 + 3 + 200 + 200 + 3 + 10 + 10 + 3 + 20 + 200)) = _
  rw [X11_init_23, hq_p0 (fs := fs) rfl (by omega) rfl]
  rfl
theorem st_26 (hf : fs.length = 18) (hn : R.length + 1 = n) : ex (d + 2) mX11_init 26 [some (.ref (32 + C.length)), none] [] (hq b C ((.inr (12, fs)) :: R) s) = ex (d + 2) mX11_init 37 [some (.ref (32 + C.length)), none] [] (hq b C ((.inr (12, fs.set 2 (.ref (32 + C.length + n)))) :: (R ++ cX7 (32 + C.length + n))) (s + 9 + 5 + 3 + 10 + 10 + 3 + 200 + 200 + 3 + 10 + 10 + 3 + 20 + 200)) := by
  have hn' : (((.inr (12, fs)) : kE) :: R).length = n := by rw [List.length_cons]; exact hn
  have e := j_X7 (d := d) (b := b) (C := C) (s := s + 9) (D0 := (.inr (12, fs)) :: R)
  rw [hn'] at e
  rw [X11_init_26, X11_init_27, hq_top, hn', hq_new, X11_init_30, X11_init_31]
  rw [show rn (d + 2) mX7_init [.ref (32 + C.length + n)] (hq b C (((.inr (12, fs)) :: R) ++ [(.inr (8, kdef 8))]) (s + (kdef 8).length)) = _ from e]
  show ex (d + 2) mX11_init 34 [some (.ref (32 + C.length)), none] [.ref (32 + C.length + n), .ref (32 + C.length)] (hq b C ((.inr (12, fs)) :: (R ++ cX7 (32 + C.length + n))) (s + 9 + 5 + 3 + 10 + 10 + 3 + 200 + 200 + 3 + 10 + 10 + 3 + 20 + 200)) = _
  rw [X11_init_34, hq_p0 (fs := fs) rfl (by omega) rfl]
  rfl
theorem st_56 (hf : fs.length = 18) (hn : R.length + 1 = n) : ex (d + 2) mX11_init 56 [some (.ref (32 + C.length)), none] [] (hq b C ((.inr (12, fs)) :: R) s) = ex (d + 2) mX11_init 67 [some (.ref (32 + C.length)), none] [] (hq b C ((.inr (12, fs.set 6 (.ref (32 + C.length + n)))) :: (R ++ cX2 (32 + C.length + n))) (s + 3 + 200 + 200)) := by
  have hn' : (((.inr (12, fs)) : kE) :: R).length = n := by rw [List.length_cons]; exact hn
  have e := j_X2 (d := d + 1) (b := b) (C := C) (s := s + 3) (D0 := (.inr (12, fs)) :: R)
  rw [hn'] at e
  rw [X11_init_56, X11_init_57, hq_top, hn', hq_new, X11_init_60, X11_init_61]
  rw [show rn (d + 2) mX2_init [.ref (32 + C.length + n)] (hq b C (((.inr (12, fs)) :: R) ++ [(.inr (3, kdef 3))]) (s + (kdef 3).length)) = _ from e]
  show ex (d + 2) mX11_init 64 [some (.ref (32 + C.length)), none] [.ref (32 + C.length + n), .ref (32 + C.length)] (hq b C ((.inr (12, fs)) :: (R ++ cX2 (32 + C.length + n))) (s + 3 + 200 + 200)) = _
  rw [X11_init_64, hq_p0 (fs := fs) rfl (by omega) rfl]
  rfl
theorem st_67 (hf : fs.length = 18) (hn : R.length + 1 = n) : ex (d + 2) mX11_init 67 [some (.ref (32 + C.length)), none] [] (hq b C ((.inr (12, fs)) :: R) s) = ex (d + 2) mX11_init 78 [some (.ref (32 + C.length)), none] [] (hq b C ((.inr (12, fs.set 7 (.ref (32 + C.length + n)))) :: (R ++ cX2 (32 + C.length + n))) (s + 3 + 200 + 200)) := by
  have hn' : (((.inr (12, fs)) : kE) :: R).length = n := by rw [List.length_cons]; exact hn
  have e := j_X2 (d := d + 1) (b := b) (C := C) (s := s + 3) (D0 := (.inr (12, fs)) :: R)
  rw [hn'] at e
  rw [X11_init_67, X11_init_68, hq_top, hn', hq_new, X11_init_71, X11_init_72]
  rw [show rn (d + 2) mX2_init [.ref (32 + C.length + n)] (hq b C (((.inr (12, fs)) :: R) ++ [(.inr (3, kdef 3))]) (s + (kdef 3).length)) = _ from e]
  show ex (d + 2) mX11_init 75 [some (.ref (32 + C.length)), none] [.ref (32 + C.length + n), .ref (32 + C.length)] (hq b C ((.inr (12, fs)) :: (R ++ cX2 (32 + C.length + n))) (s + 3 + 200 + 200)) = _
  rw [X11_init_75, hq_p0 (fs := fs) rfl (by omega) rfl]
  rfl
theorem st_78 (hf : fs.length = 18) (hn : R.length + 1 = n) : ex (d + 2) mX11_init 78 [some (.ref (32 + C.length)), none] [] (hq b C ((.inr (12, fs)) :: R) s) = ex (d + 2) mX11_init 89 [some (.ref (32 + C.length)), none] [] (hq b C ((.inr (12, fs.set 8 (.ref (32 + C.length + n)))) :: (R ++ cX5 (32 + C.length + n))) (s + 2)) := by
  have hn' : (((.inr (12, fs)) : kE) :: R).length = n := by rw [List.length_cons]; exact hn
  have e := j_X5 (d := d + 1) (b := b) (C := C) (s := s + 2) (D0 := (.inr (12, fs)) :: R)
  rw [hn'] at e
  rw [X11_init_78, X11_init_79, hq_top, hn', hq_new, X11_init_82, X11_init_83]
  rw [show rn (d + 2) mX5_init [.ref (32 + C.length + n)] (hq b C (((.inr (12, fs)) :: R) ++ [(.inr (6, kdef 6))]) (s + (kdef 6).length)) = _ from e]
  show ex (d + 2) mX11_init 86 [some (.ref (32 + C.length)), none] [.ref (32 + C.length + n), .ref (32 + C.length)] (hq b C ((.inr (12, fs)) :: (R ++ cX5 (32 + C.length + n))) (s + 2)) = _
  rw [X11_init_86, hq_p0 (fs := fs) rfl (by omega) rfl]
  rfl
theorem st_89 (hf : fs.length = 18) (hn : R.length + 1 = n) : ex (d + 2) mX11_init 89 [some (.ref (32 + C.length)), none] [] (hq b C ((.inr (12, fs)) :: R) s) = ex (d + 2) mX11_init 100 [some (.ref (32 + C.length)), none] [] (hq b C ((.inr (12, fs.set 9 (.ref (32 + C.length + n)))) :: (R ++ cX5 (32 + C.length + n))) (s + 2)) := by
  have hn' : (((.inr (12, fs)) : kE) :: R).length = n := by rw [List.length_cons]; exact hn
  have e := j_X5 (d := d + 1) (b := b) (C := C) (s := s + 2) (D0 := (.inr (12, fs)) :: R)
  rw [hn'] at e
  rw [X11_init_89, X11_init_90, hq_top, hn', hq_new, X11_init_93, X11_init_94]
  rw [show rn (d + 2) mX5_init [.ref (32 + C.length + n)] (hq b C (((.inr (12, fs)) :: R) ++ [(.inr (6, kdef 6))]) (s + (kdef 6).length)) = _ from e]
  show ex (d + 2) mX11_init 97 [some (.ref (32 + C.length)), none] [.ref (32 + C.length + n), .ref (32 + C.length)] (hq b C ((.inr (12, fs)) :: (R ++ cX5 (32 + C.length + n))) (s + 2)) = _
  rw [X11_init_97, hq_p0 (fs := fs) rfl (by omega) rfl]
  rfl
theorem st_100 (hf : fs.length = 18) (hn : R.length + 1 = n) : ex (d + 2) mX11_init 100 [some (.ref (32 + C.length)), none] [] (hq b C ((.inr (12, fs)) :: R) s) = ex (d + 2) mX11_init 111 [some (.ref (32 + C.length)), none] [] (hq b C ((.inr (12, fs.set 10 (.ref (32 + C.length + n)))) :: (R ++ cX1 (32 + C.length + n))) (s + 14 + 200 + 200 + 200 + 200 + 200)) := by
  have hn' : (((.inr (12, fs)) : kE) :: R).length = n := by rw [List.length_cons]; exact hn
  have e := j_X1 (d := d + 1) (b := b) (C := C) (s := s + 14) (D0 := (.inr (12, fs)) :: R)
  rw [hn'] at e
  rw [X11_init_100, X11_init_101, hq_top, hn', hq_new, X11_init_104, X11_init_105]
  rw [show rn (d + 2) mX1_init [.ref (32 + C.length + n)] (hq b C (((.inr (12, fs)) :: R) ++ [(.inr (2, kdef 2))]) (s + (kdef 2).length)) = _ from e]
  show ex (d + 2) mX11_init 108 [some (.ref (32 + C.length)), none] [.ref (32 + C.length + n), .ref (32 + C.length)] (hq b C ((.inr (12, fs)) :: (R ++ cX1 (32 + C.length + n))) (s + 14 + 200 + 200 + 200 + 200 + 200)) = _
  rw [X11_init_108, hq_p0 (fs := fs) rfl (by omega) rfl]
  rfl
theorem st_111 (hf : fs.length = 18) (hn : R.length + 1 = n) : ex (d + 2) mX11_init 111 [some (.ref (32 + C.length)), none] [] (hq b C ((.inr (12, fs)) :: R) s) = ex (d + 2) mX11_init 122 [some (.ref (32 + C.length)), none] [] (hq b C ((.inr (12, fs.set 11 (.ref (32 + C.length + n)))) :: (R ++ cX0 (32 + C.length + n))) (s + 5 + 200 + 200 + 200 + 200)) := by
  have hn' : (((.inr (12, fs)) : kE) :: R).length = n := by rw [List.length_cons]; exact hn
  have e := j_X0 (d := d + 1) (b := b) (C := C) (s := s + 5) (D0 := (.inr (12, fs)) :: R)
  rw [hn'] at e
  rw [X11_init_111, X11_init_112, hq_top, hn', hq_new, X11_init_115, X11_init_116]
  rw [show rn (d + 2) mX0_init [.ref (32 + C.length + n)] (hq b C (((.inr (12, fs)) :: R) ++ [(.inr (1, kdef 1))]) (s + (kdef 1).length)) = _ from e]
  show ex (d + 2) mX11_init 119 [some (.ref (32 + C.length)), none] [.ref (32 + C.length + n), .ref (32 + C.length)] (hq b C ((.inr (12, fs)) :: (R ++ cX0 (32 + C.length + n))) (s + 5 + 200 + 200 + 200 + 200)) = _
  rw [X11_init_119, hq_p0 (fs := fs) rfl (by omega) rfl]
  rfl
theorem st_122 (hf : fs.length = 18) (hn : R.length + 1 = n) : ex (d + 2) mX11_init 122 [some (.ref (32 + C.length)), none] [] (hq b C ((.inr (12, fs)) :: R) s) = ex (d + 2) mX11_init 133 [some (.ref (32 + C.length)), none] [] (hq b C ((.inr (12, fs.set 12 (.ref (32 + C.length + n)))) :: (R ++ cX3 (32 + C.length + n))) (s + 6 + 800 + 200)) := by
  have hn' : (((.inr (12, fs)) : kE) :: R).length = n := by rw [List.length_cons]; exact hn
  have e := j_X3 (d := d + 1) (b := b) (C := C) (s := s + 6) (D0 := (.inr (12, fs)) :: R)
  rw [hn'] at e
  rw [X11_init_122, X11_init_123, hq_top, hn', hq_new, X11_init_126, X11_init_127]
  rw [show rn (d + 2) mX3_init [.ref (32 + C.length + n)] (hq b C (((.inr (12, fs)) :: R) ++ [(.inr (4, kdef 4))]) (s + (kdef 4).length)) = _ from e]
  show ex (d + 2) mX11_init 130 [some (.ref (32 + C.length)), none] [.ref (32 + C.length + n), .ref (32 + C.length)] (hq b C ((.inr (12, fs)) :: (R ++ cX3 (32 + C.length + n))) (s + 6 + 800 + 200)) = _
  rw [X11_init_130, hq_p0 (fs := fs) rfl (by omega) rfl]
  rfl
theorem st_133 (hf : fs.length = 18) (hn : R.length + 1 = n) : ex (d + 2) mX11_init 133 [some (.ref (32 + C.length)), none] [] (hq b C ((.inr (12, fs)) :: R) s) = ex (d + 2) mX11_init 144 [some (.ref (32 + C.length)), none] [] (hq b C ((.inr (12, fs.set 13 (.ref (32 + C.length + n)))) :: (R ++ cX3 (32 + C.length + n))) (s + 6 + 800 + 200)) := by
  have hn' : (((.inr (12, fs)) : kE) :: R).length = n := by rw [List.length_cons]; exact hn
  have e := j_X3 (d := d + 1) (b := b) (C := C) (s := s + 6) (D0 := (.inr (12, fs)) :: R)
  rw [hn'] at e
  rw [X11_init_133, X11_init_134, hq_top, hn', hq_new, X11_init_137, X11_init_138]
  rw [show rn (d + 2) mX3_init [.ref (32 + C.length + n)] (hq b C (((.inr (12, fs)) :: R) ++ [(.inr (4, kdef 4))]) (s + (kdef 4).length)) = _ from e]
  show ex (d + 2) mX11_init 141 [some (.ref (32 + C.length)), none] [.ref (32 + C.length + n), .ref (32 + C.length)] (hq b C ((.inr (12, fs)) :: (R ++ cX3 (32 + C.length + n))) (s + 6 + 800 + 200)) = _
  rw [X11_init_141, hq_p0 (fs := fs) rfl (by omega) rfl]
  rfl
theorem st_144 (hf : fs.length = 18) (hn : R.length + 1 = n) : ex (d + 2) mX11_init 144 [some (.ref (32 + C.length)), none] [] (hq b C ((.inr (12, fs)) :: R) s) = ex (d + 2) mX11_init 155 [some (.ref (32 + C.length)), none] [] (hq b C ((.inr (12, fs.set 14 (.ref (32 + C.length + n)))) :: (R ++ cX10 (32 + C.length + n))) (s + 8 + 5 + 5 + 5 + 5 + 30)) := by
  have hn' : (((.inr (12, fs)) : kE) :: R).length = n := by rw [List.length_cons]; exact hn
  have e := j_X10 (d := d + 1) (b := b) (C := C) (s := s + 8) (D0 := (.inr (12, fs)) :: R)
  rw [hn'] at e
  rw [X11_init_144, X11_init_145, hq_top, hn', hq_new, X11_init_148, X11_init_149]
  rw [show rn (d + 2) mX10_init [.ref (32 + C.length + n)] (hq b C (((.inr (12, fs)) :: R) ++ [(.inr (11, kdef 11))]) (s + (kdef 11).length)) = _ from e]
  show ex (d + 2) mX11_init 152 [some (.ref (32 + C.length)), none] [.ref (32 + C.length + n), .ref (32 + C.length)] (hq b C ((.inr (12, fs)) :: (R ++ cX10 (32 + C.length + n))) (s + 8 + 5 + 5 + 5 + 5 + 30)) = _
  rw [X11_init_152, hq_p0 (fs := fs) rfl (by omega) rfl]
  rfl
theorem st_155 (hf : fs.length = 18) (hn : R.length + 1 = n) : ex (d + 2) mX11_init 155 [some (.ref (32 + C.length)), none] [] (hq b C ((.inr (12, fs)) :: R) s) = ex (d + 2) mX11_init 166 [some (.ref (32 + C.length)), none] [] (hq b C ((.inr (12, fs.set 15 (.ref (32 + C.length + n)))) :: (R ++ cX10 (32 + C.length + n))) (s + 8 + 5 + 5 + 5 + 5 + 30)) := by
  have hn' : (((.inr (12, fs)) : kE) :: R).length = n := by rw [List.length_cons]; exact hn
  have e := j_X10 (d := d + 1) (b := b) (C := C) (s := s + 8) (D0 := (.inr (12, fs)) :: R)
  rw [hn'] at e
  rw [X11_init_155, X11_init_156, hq_top, hn', hq_new, X11_init_159, X11_init_160]
  rw [show rn (d + 2) mX10_init [.ref (32 + C.length + n)] (hq b C (((.inr (12, fs)) :: R) ++ [(.inr (11, kdef 11))]) (s + (kdef 11).length)) = _ from e]
  show ex (d + 2) mX11_init 163 [some (.ref (32 + C.length)), none] [.ref (32 + C.length + n), .ref (32 + C.length)] (hq b C ((.inr (12, fs)) :: (R ++ cX10 (32 + C.length + n))) (s + 8 + 5 + 5 + 5 + 5 + 30)) = _
  rw [X11_init_163, hq_p0 (fs := fs) rfl (by omega) rfl]
  rfl
theorem st_37 (hf : fs.length = 18) (hn : R.length + 1 = n) : ex (d + 2) mX11_init 37 [some (.ref (32 + C.length)), none] [] (hq b C ((.inr (12, fs)) :: R) s) = ex (d + 2) mX11_init 46 [some (.ref (32 + C.length)), none] [] (hq b C ((.inr (12, fs.set 3 (.ref (32 + C.length + n)))) :: (R ++ [(.inl (.object "KnockFinder$State", 8, .inr (.inr (.inr (.inr fun j => if j < 8 then none else some 0)))))])) (s + 8)) := by
  have hn' : (((.inr (12, fs)) : kE) :: R).length = n := by rw [List.length_cons]; exact hn
  rw [X11_init_37, X11_init_38, X11_init_40, if_pos (by decide), hq_top, hn', hq_new]
  show ex (d + 2) mX11_init 43 [some (.ref (32 + C.length)), none] [.ref (32 + C.length + n), .ref (32 + C.length)] (hq b C ((.inr (12, fs)) :: (R ++ [(.inl (.object "KnockFinder$State", 8, .inr (.inr (.inr (.inr fun j => if j < 8 then none else some 0)))))])) (s + 8)) = _
  rw [X11_init_43, hq_p0 (fs := fs) rfl (by omega) rfl]
  rfl
theorem st_166 (hf : fs.length = 18) (hn : R.length + 1 = n) : ex (d + 2) mX11_init 166 [some (.ref (32 + C.length)), none] [] (hq b C ((.inr (12, fs)) :: R) s) = ex (d + 2) mX11_init 174 [some (.ref (32 + C.length)), none] [] (hq b C ((.inr (12, fs.set 16 (.ref (32 + C.length + n)))) :: (R ++ [(.inl (.int, 8, .inl (fun _ => 0)))])) (s + 8)) := by
  have hn' : (((.inr (12, fs)) : kE) :: R).length = n := by rw [List.length_cons]; exact hn
  rw [X11_init_166, X11_init_167, X11_init_169, if_pos (by decide), hq_top, hn', hq_new]
  show ex (d + 2) mX11_init 171 [some (.ref (32 + C.length)), none] [.ref (32 + C.length + n), .ref (32 + C.length)] (hq b C ((.inr (12, fs)) :: (R ++ [(.inl (.int, 8, .inl (fun _ => 0)))])) (s + 8)) = _
  rw [X11_init_171, hq_p0 (fs := fs) rfl (by omega) rfl]
  rfl
theorem st_174 (hf : fs.length = 18) (hn : R.length + 1 = n) : ex (d + 2) mX11_init 174 [some (.ref (32 + C.length)), none] [] (hq b C ((.inr (12, fs)) :: R) s) = ex (d + 2) mX11_init 183 [some (.ref (32 + C.length)), none] [] (hq b C ((.inr (12, fs.set 17 (.ref (32 + C.length + n)))) :: (R ++ [(.inl (.int, 699, .inl (fun _ => 0)))])) (s + 699)) := by
  have hn' : (((.inr (12, fs)) : kE) :: R).length = n := by rw [List.length_cons]; exact hn
  rw [X11_init_174, X11_init_175, X11_init_178, if_pos (by decide), hq_top, hn', hq_new]
  show ex (d + 2) mX11_init 180 [some (.ref (32 + C.length)), none] [.ref (32 + C.length + n), .ref (32 + C.length)] (hq b C ((.inr (12, fs)) :: (R ++ [(.inl (.int, 699, .inl (fun _ => 0)))])) (s + 699)) = _
  rw [X11_init_180, hq_p0 (fs := fs) rfl (by omega) rfl]
  rfl
theorem st_46 (hf : fs.length = 18) : ex (d + 2) mX11_init 46 [some (.ref (32 + C.length)), none] [] (hq b C ((.inr (12, fs)) :: R) s) = ex (d + 2) mX11_init 51 [some (.ref (32 + C.length)), none] [] (hq b C ((.inr (12, fs.set 4 (.int 0))) :: R) s) := by
  rw [X11_init_46, X11_init_47, X11_init_48, hq_p0 (fs := fs) rfl (by omega) rfl]
  rfl
theorem st_51 (hf : fs.length = 18) : ex (d + 2) mX11_init 51 [some (.ref (32 + C.length)), none] [] (hq b C ((.inr (12, fs)) :: R) s) = ex (d + 2) mX11_init 56 [some (.ref (32 + C.length)), none] [] (hq b C ((.inr (12, fs.set 5 (.int 0))) :: R) s) := by
  rw [X11_init_51, X11_init_52, X11_init_53, hq_p0 (fs := fs) rfl (by omega) rfl]
  rfl
theorem st_0 : ex (d + 2) mX11_init 0 [some (.ref (32 + C.length)), none] [] (hq b C ((.inr (12, fs)) :: R) s) = ex (d + 2) mX11_init 4 [some (.ref (32 + C.length)), none] [] (hq b C ((.inr (12, fs)) :: R) s) := by
  rw [X11_init_0, X11_init_1]
theorem st_183 : ex (d + 2) mX11_init 183 [some (.ref (32 + C.length)), none] [] (hq b C ((.inr (12, fs)) :: R) s) = ex (d + 2) mX11_init 185 [some (.ref (32 + C.length)), some (.int (nI 0))] [] (hq b C ((.inr (12, fs)) :: R) s) := by
  rw [X11_init_183, X11_init_184]
  rfl
theorem st_lp {x : Nat} {f : Nat → Option Nat} (hx : x < 8) (hn : R.length + 1 = n) (h3 : fs[3]? = some (.ref (32 + C.length + 33))) (h33 : R[32]? = some (.inl (.object "KnockFinder$State", 8, .inr (.inr (.inr (.inr f)))))) : ex (d + 2) mX11_init 185 [some (.ref (32 + C.length)), some (.int (nI x))] [] (hq b C ((.inr (12, fs)) :: R) s) = ex (d + 2) mX11_init 185 [some (.ref (32 + C.length)), some (.int (nI (x + 1)))] [] (hq b C ((.inr (12, fs)) :: ((R.set 32 (.inl (.object "KnockFinder$State", 8, .inr (.inr (.inr (.inr (va_up f x (some (32 + C.length + n)))))))) ++ cX7 (32 + C.length + n)))) (s + 9 + 5 + 3 + 10 + 10 + 3 + 200 + 200 + 3 + 10 + 10 + 3 + 20 + 200)) := by
  have hn' : (((.inr (12, fs)) : kE) :: R).length = n := by rw [List.length_cons]; exact hn
  have hl : 32 < R.length := by
    refine Nat.lt_of_not_le (fun z => ?_)
    rw [List.getElem?_eq_none z] at h33
    cases h33
  have y8 : (8 : Int32).toInt = 8 := by decide
  have hlt : ¬ ((8 : Int32) ≤ nI x) := fun z => by
    rw [Int32.le_iff_toInt_le, nI_toInt (by omega), y8] at z
    omega
  have e := j_X7 (d := d) (b := b) (C := C) (s := s + 9) (D0 := (.inr (12, fs)) :: R)
  rw [hn'] at e
  have e1 : (((.inr (12, fs)) : kE) :: (R ++ cX7 (32 + C.length + n)))[33]? = some (.inl (.object "KnockFinder$State", 8, .inr (.inr (.inr (.inr f))))) := by
    rw [List.getElem?_cons_succ, List.getElem?_append_left hl]
    exact h33
  have e2 : (((.inr (12, fs)) : kE) :: (R ++ cX7 (32 + C.length + n)))[n]? = some (.inr (8, [.int 8, .int 10, .int 40, .int 240, .ref (32 + C.length + n + 1), .ref (32 + C.length + n + 2), .ref (32 + C.length + n + 5), .ref (32 + C.length + n + 8), .ref (32 + C.length + n + 11)])) := by
    rw [← hn, List.getElem?_cons_succ, List.getElem?_append_right (Nat.le_refl _), Nat.sub_self]
    rfl
  rw [X11_init_185, X11_init_186, X11_init_188, if_neg hlt, X11_init_191, X11_init_192, hq_g0 (fs := fs) rfl h3]
  show ex (d + 2) mX11_init 195 [some (.ref (32 + C.length)), some (.int (nI x))] [.ref (32 + C.length + 33)] (hq b C ((.inr (12, fs)) :: R) s) = _
  rw [X11_init_195, X11_init_196, hq_top, hn', hq_new, X11_init_199, X11_init_200]
  rw [show rn (d + 2) mX7_init [.ref (32 + C.length + n)] (hq b C (((.inr (12, fs)) :: R) ++ [(.inr (8, kdef 8))]) (s + (kdef 8).length)) = _ from e]
  show ex (d + 2) mX11_init 203 [some (.ref (32 + C.length)), some (.int (nI x))] [.ref (32 + C.length + n), .int (nI x), .ref (32 + C.length + 33)] (hq b C ((.inr (12, fs)) :: (R ++ cX7 (32 + C.length + n))) (s + 9 + 5 + 3 + 10 + 10 + 3 + 200 + 200 + 3 + 10 + 10 + 3 + 20 + 200)) = _
  rw [X11_init_203, hq_as (i := 33) (j := n) e1 ⟨hx, by decide⟩ e2]
  show ex (d + 2) mX11_init 204 [some (.ref (32 + C.length)), some (.int (nI x))] [] (hq b C ((.inr (12, fs)) :: (R ++ cX7 (32 + C.length + n)).set 32 (.inl (.object "KnockFinder$State", 8, .inr (.inr (.inr (.inr (va_up f x (some (32 + C.length + n)))))))))  _) = _
  rw [List.set_append_left _ _ hl, X11_init_204, X11_init_207, kkl_r, show (nI x + 1 : Int32) = nI (x + 1) from nI_add x 1]
theorem st_end : ex (d + 2) mX11_init 185 [some (.ref (32 + C.length)), some (.int (nI 8))] [] (hq b C ((.inr (12, fs)) :: R) s) = some (none, hq b C ((.inr (12, fs)) :: R) s) := by
  rw [X11_init_185, X11_init_186, X11_init_188, if_pos (by decide), X11_init_210]
end MST
