theorem zz_nn {k : Int32} (h : ¬ k < 0) : (0 : Int32) ≤ k := by
  rw [Int32.le_iff_toInt_le]
  rw [Int32.lt_iff_toInt_lt] at h
  omega
def chOK (x : Int32) : Int32 := if x = 10 ∨ (32 ≤ x ∧ x ≤ 126) then 1 else 0
theorem zz_le {a b : Int32} (h : ¬ a < b) : b ≤ a := by
  rw [Int32.le_iff_toInt_le]
  rw [Int32.lt_iff_toInt_lt] at h
  omega
theorem zz_nle {a b : Int32} (h : a < b) : ¬ b ≤ a := by
  rw [Int32.le_iff_toInt_le]
  rw [Int32.lt_iff_toInt_lt] at h
  omega
theorem ch_10 {x : Int32} (h : x = 10) : (1 : Int32) = chOK x := by rw [chOK, if_pos (Or.inl h)]
theorem ch_in {x : Int32} (h1 : ¬ x < 32) (h2 : ¬ 126 < x) : (1 : Int32) = chOK x := by rw [chOK, if_pos (Or.inr ⟨zz_le h1, zz_le h2⟩)]
theorem ch_inl {x : Int32} (h1 : ¬ x < 32) (h2 : x ≤ 126) : (1 : Int32) = chOK x := by rw [chOK, if_pos (Or.inr ⟨zz_le h1, h2⟩)]
theorem ch_lo {x : Int32} (h0 : ¬ x = 10) (h1 : x < 32) : (0 : Int32) = chOK x := by
  rw [chOK, if_neg]
  rintro (h | ⟨h, -⟩)
  · exact h0 h
  · exact zz_nle h1 h
theorem ch_hi {x : Int32} (h0 : ¬ x = 10) (h1 : 126 < x) : (0 : Int32) = chOK x := by
  rw [chOK, if_neg]
  rintro (h | ⟨-, h⟩)
  · exact h0 h
  · exact zz_nle h1 h
theorem ch_hil {x : Int32} (h0 : ¬ x = 10) (h1 : ¬ x ≤ 126) : (0 : Int32) = chOK x := by
  rw [chOK, if_neg]
  rintro (h | ⟨-, h⟩)
  · exact h0 h
  · exact h1 h
def lkV (x : Int32) : Int32 := if x = 0 ∨ x = 1 ∨ x = 2 ∨ x = 3 then 0 else -1
