/-! OWN: the reference: acts -/
section RA
variable {d : Nat} {h : kH} {i : Nat → Nat → Int32} {l : Nat → Nat → Int64} {J : Nat → Nat → Int64} {nw df : Nat} {P : Nat → Nat}
theorem r_rem2 {n : Nat} (hn : n ≤ 7) (ha : i 217 3 = nI n) : ∀ (m k : Nat) (I : Nat → Nat → Int32), k + m = 676 → ex d mX12_remembers 52 [some (.ref 217), some (.int (nI k))] [] (mH h i l I J nw df P) = ex d mX12_remembers 86 [some (.ref 217), some (.int (nI 676))] [] (mH h i l (va_up I 220 (fun j => if 676 * n + k ≤ j ∧ j < 676 * n + 676 then I 218 (j - 676 * n) else I 220 j)) J nw df P)
  | 0, k, I, hk => by
    have hk : k = 676 := hk
    subst hk
    rw [X12_remembers_52]
    simp only [X12_remembers_53, X12_remembers_56]
    rw [if_pos (show (676 : Int32) ≤ nI 676 from by decide), kup_Ii (fun j => if_neg (by omega))]
  | m + 1, k, I, hk => by
    rw [X12_remembers_52]
    simp only [X12_remembers_53, X12_remembers_56]
    rw [if_neg (show ¬ (676 : Int32) ≤ nI k from nI_ge (b := 676) (by omega) (by omega))]
    have e1 : (676 : Int32) * i 217 3 + nI k = nI (676 * n + k) := by rw [ha, show (676 : Int32) = nI 676 from rfl, pk_mul, nI_add]
    conv => lhs; simp (disch := omega) only [X12_remembers_0, X12_remembers_1, X12_remembers_4, X12_remembers_6, X12_remembers_9, X12_remembers_10, X12_remembers_11, X12_remembers_12, X12_remembers_15, X12_remembers_18, X12_remembers_19, X12_remembers_22, X12_remembers_23, X12_remembers_24, X12_remembers_27, X12_remembers_30, X12_remembers_31, X12_remembers_32, X12_remembers_33, X12_remembers_34, X12_remembers_37, X12_remembers_40, X12_remembers_41, X12_remembers_42, X12_remembers_45, X12_remembers_46, X12_remembers_47, X12_remembers_50, X12_remembers_51, X12_remembers_53, X12_remembers_56, X12_remembers_59, X12_remembers_60, X12_remembers_63, X12_remembers_66, X12_remembers_67, X12_remembers_70, X12_remembers_71, X12_remembers_72, X12_remembers_73, X12_remembers_74, X12_remembers_77, X12_remembers_78, X12_remembers_79, X12_remembers_80, X12_remembers_83, X12_remembers_86, X12_remembers_87, X12_remembers_88, X12_remembers_91, X12_remembers_92, X12_remembers_93, X12_remembers_96, g13_0, g13_2, g13_3, Option.bind_some, e1, ln_218, sn_220, kkl_r, nI_1]
    rw [r_rem2 hn ha m (k + 1) _ (by omega), kup_I, kup_In (by decide), kup_Is]
    congr 3
    funext j
    unfold upd
    by_cases h1 : j = 676 * n + k
    · subst h1
      simp only [if_true]
      rw [if_neg (by omega), if_pos (by omega)]
      congr 1
      omega
    · rw [if_neg h1]
      by_cases h2 : 676 * n + (k + 1) ≤ j ∧ j < 676 * n + 676
      · rw [if_pos h2, if_pos (by omega)]
      · rw [if_neg h2, if_neg (by omega)]
end RA
