theorem oh_02 {v : Int32} (h : ¬ fX6_within v 0 2 = 0) : v = 0 ∨ v = 1 ∨ v = 2 := by
  unfold fX6_within at h
  by_cases h1 : v < 0
  · exact absurd (if_pos h1) h
  · rw [if_neg h1] at h
    by_cases h2 : 2 < v
    · exact absurd (if_pos h2) h
    · rw [Int32.lt_iff_toInt_lt] at h1 h2
      have h3 : (0 : Int32).toInt = 0 := by decide
      have h4 : (2 : Int32).toInt = 2 := by decide
      rcases (show v.toInt = 0 ∨ v.toInt = 1 ∨ v.toInt = 2 by omega) with h | h | h
      · exact Or.inl (Int32.toInt_inj.mp (h.trans (by decide)))
      · exact Or.inr (Or.inl (Int32.toInt_inj.mp (h.trans (by decide))))
      · exact Or.inr (Or.inr (Int32.toInt_inj.mp (h.trans (by decide))))
theorem eq_row (y1 y2 y3 : Int32) : fX6_row y1 y2 y3 = fX7_row y1 y2 y3 := by
  unfold fX6_row fX7_row
  have e1 : fX7_in (Int32.toInt64 y1) 0 7 = fX6_within y1 0 7 := oh_in (by decide) (by decide)
  have e2 : fX7_in (Int32.toInt64 y2) 0 4 = fX6_within y2 0 4 := oh_in (by decide) (by decide)
  have e3 : fX7_in (Int32.toInt64 y3) 0 40 = fX6_within y3 0 40 := oh_in (by decide) (by decide)
  by_cases h1 : (fX6_within y1 0 7) = 0 <;> by_cases h2 : (fX6_within y2 0 4) = 0 <;> by_cases h3 : (fX6_within y3 0 40) = 0 <;> simp [e1, e2, e3, h1, h2, h3]
theorem eq_set (y1 y2 y3 y4 : Int32) : (fX6_whyNoRow y1) = fX7_set y1 y2 (((Int32.toInt64 y3) <<< (Int32.toInt64 32 &&& 63)) ||| ((Int32.toInt64 y4) &&& 4294967295)) := by
  unfold fX6_whyNoRow fX7_set
  have e1 : fX7_in (Int32.toInt64 y1) 0 7 = fX6_within y1 0 7 := oh_in (by decide) (by decide)
  by_cases h1 : (fX6_within y1 0 7) = 0 <;> simp [e1, h1]
theorem eq_copy (y1 y2 y3 y4 y5 : Int32) : fX6_copy y1 y2 y3 y4 y5 = fX7_copy y1 y2 y3 y4 y5 := by
  unfold fX6_copy fX7_copy
  have e1 : fX7_in (Int32.toInt64 y1) 0 7 = fX6_within y1 0 7 := oh_in (by decide) (by decide)
  have e2 : fX7_in (Int32.toInt64 y2) 0 7 = fX6_within y2 0 7 := oh_in (by decide) (by decide)
  by_cases h1 : (fX6_within y1 0 7) = 0 <;> by_cases h2 : (fX6_within y2 0 7) = 0 <;> simp [e1, e2, h1, h2]
theorem eq_show (y1 y2 : Int32) : fX6_show y1 y2 = fX7_show y1 y2 := by
  unfold fX6_show fX7_show
  have e1 : fX7_in (Int32.toInt64 y1) 0 7 = fX6_within y1 0 7 := oh_in (by decide) (by decide)
  by_cases h1 : (fX6_within y1 0 7) = 0 <;> by_cases h2 : y2 = (-1) <;> simp [e1, h1, h2]
theorem eq_says (y1 y2 : Int32) : fX6_says y1 y2 = fX7_says y1 y2 := by
  unfold fX6_says fX7_says
  have e1 : fX7_in (Int32.toInt64 y1) 0 7 = fX6_within y1 0 7 := oh_in (by decide) (by decide)
  have e2 : fX7_in (Int32.toInt64 y2) 0 5 = fX6_within y2 0 5 := oh_in (by decide) (by decide)
  by_cases h1 : (fX6_within y1 0 7) = 0 <;> by_cases h2 : (fX6_within y2 0 5) = 0 <;> simp [e1, e2, h1, h2]
theorem eq_road (y1 y2 y3 y4 y5 y6 : Int32) : fX6_road y1 y2 y3 y4 y5 y6 = fX7_road y1 y2 y3 y4 y5 y6 := by
  unfold fX6_road fX7_road
  have e1 : fX7_in (Int32.toInt64 y1) 0 15 = fX6_within y1 0 15 := oh_in (by decide) (by decide)
  have e2 : fX7_in (Int32.toInt64 y2) 0 15 = fX6_within y2 0 15 := oh_in (by decide) (by decide)
  have e3 : fX7_in (Int32.toInt64 y3) 1 60 = fX6_within y3 1 60 := oh_in (by decide) (by decide)
  have e4 : fX7_in (Int32.toInt64 y4) 0 9 = fX6_within y4 0 9 := oh_in (by decide) (by decide)
  have e5 : fX7_in (Int32.toInt64 y5) 1 99 = fX6_within y5 1 99 := oh_in (by decide) (by decide)
  have e6 : fX7_in (Int32.toInt64 y6) 0 15 = fX6_within y6 0 15 := oh_in (by decide) (by decide)
  by_cases h1 : (fX6_within y1 0 15) = 0 <;> by_cases h2 : (fX6_within y2 0 15) = 0 <;> by_cases h3 : y1 = y2 <;> by_cases h4 : (fX6_within y3 1 60) = 0 <;> by_cases h5 : (fX6_within y4 0 9) = 0 <;> by_cases h6 : (fX6_within y5 1 99) = 0 <;> by_cases h7 : (fX6_within y6 0 15) = 0 <;> simp [e1, e2, e3, e4, e5, e6, h1, h2, h3, h4, h5, h6, h7]
theorem eq_waggon (y1 y2 y3 : Int32) : fX6_waggon y1 y2 y3 = fX7_waggon y1 y2 y3 := by
  unfold fX6_waggon fX7_waggon
  have e1 : fX7_in (Int32.toInt64 y1) 2 12 = fX6_within y1 2 12 := oh_in (by decide) (by decide)
  have e2 : fX7_in (Int32.toInt64 y2) 1 9 = fX6_within y2 1 9 := oh_in (by decide) (by decide)
  have e3 : fX7_in (Int32.toInt64 y3) 0 99 = fX6_within y3 0 99 := oh_in (by decide) (by decide)
  by_cases h1 : (fX6_within y1 2 12) = 0 <;> by_cases h2 : (fX6_within y2 1 9) = 0 <;> by_cases h3 : (fX6_within y3 0 99) = 0 <;> simp [e1, e2, e3, h1, h2, h3]
theorem eq_part (y1 y2 : Int32) : fX6_part y1 y2 = fX7_part y1 y2 := by
  unfold fX6_part fX7_part
  have e1 : fX7_in (Int32.toInt64 y1) 1 99 = fX6_within y1 1 99 := oh_in (by decide) (by decide)
  have e2 : fX7_in (Int32.toInt64 y2) 0 99 = fX6_within y2 0 99 := oh_in (by decide) (by decide)
  by_cases h1 : (fX6_within y1 1 99) = 0 <;> by_cases h2 : (fX6_within y2 0 99) = 0 <;> simp [e1, e2, h1, h2]
theorem eq_ask (y1 y2 : Int32) : fX6_ask y1 y2 = fX7_ask y1 y2 := by
  unfold fX6_ask fX7_ask
  have e1 : fX7_in (Int32.toInt64 y1) 0 2 = fX6_within y1 0 2 := oh_in (by decide) (by decide)
  by_cases h1 : fX6_within y1 0 2 = 0
  · simp only [e1, h1, if_true]
  · rcases oh_02 h1 with rfl | rfl | rfl
    · have e2 : fX7_in (Int32.toInt64 y2) 0 900 = fX6_within y2 0 900 := oh_in (by decide) (by decide)
      have e3 : oh_maxs (Int32.toNatClampNeg 0) = 900 := by decide
      have h2 : ¬ fX6_within 0 0 2 = 0 := by decide
      have e4 : oh_maxs 0 = 900 := by decide
      have h4 : ¬ fX7_in 0 0 2 = 0 := by decide
      by_cases h3 : fX6_within y2 0 900 = 0 <;> simp [e1, e2, e3, e4, h2, h3, h4, upd]
    · have e2 : fX7_in (Int32.toInt64 y2) 0 99 = fX6_within y2 0 99 := oh_in (by decide) (by decide)
      have e3 : oh_maxs (Int32.toNatClampNeg 1) = 99 := by decide
      have h2 : ¬ fX6_within 1 0 2 = 0 := by decide
      have e4 : oh_maxs 1 = 99 := by decide
      have h4 : ¬ fX7_in 1 0 2 = 0 := by decide
      by_cases h3 : fX6_within y2 0 99 = 0 <;> simp [e1, e2, e3, e4, h2, h3, h4, upd]
    · have e2 : fX7_in (Int32.toInt64 y2) 0 1 = fX6_within y2 0 1 := oh_in (by decide) (by decide)
      have e3 : oh_maxs (Int32.toNatClampNeg 2) = 1 := by decide
      have h2 : ¬ fX6_within 2 0 2 = 0 := by decide
      have e4 : oh_maxs 2 = 1 := by decide
      have h4 : ¬ fX7_in 2 0 2 = 0 := by decide
      by_cases h3 : fX6_within y2 0 1 = 0 <;> simp [e1, e2, e3, e4, h2, h3, h4, upd]
theorem eq_feed (y1 y2 : Int32) : fX6_feed y1 y2 = fX7_feed y1 y2 := by
  unfold fX6_feed fX7_feed
  have e1 : fX7_in (Int32.toInt64 y2) 1 4 = fX6_within y2 1 4 := oh_in (by decide) (by decide)
  by_cases h1 : (fX6_within y2 1 4) = 0 <;> simp [e1, h1]
theorem eq_best (y1 y2 y3 : Int32) : fX6_best y1 y2 y3 = fX7_best y1 y2 y3 := by
  unfold fX6_best fX7_best
  have e1 : fX7_in (Int32.toInt64 y1) 0 15 = fX6_within y1 0 15 := oh_in (by decide) (by decide)
  have e2 : fX7_in (Int32.toInt64 y2) 0 15 = fX6_within y2 0 15 := oh_in (by decide) (by decide)
  have e3 : fX7_in (Int32.toInt64 y3) 0 2 = fX6_within y3 0 2 := oh_in (by decide) (by decide)
  by_cases h1 : (fX6_within y1 0 15) = 0 <;> by_cases h2 : (fX6_within y2 0 15) = 0 <;> by_cases h3 : (fX6_within y3 0 2) = 0 <;> simp [e1, e2, e3, h1, h2, h3]
theorem eq_under (y1 : Int32) : fX6_under y1 = fX7_under y1 := by
  unfold fX6_under fX7_under
  have e1 : fX7_in (Int32.toInt64 y1) 0 4 = fX6_within y1 0 4 := oh_in (by decide) (by decide)
  by_cases h1 : (fX6_within y1 0 4) = 0 <;> simp [e1, h1]
theorem eq_status (y1 : Int32) : fX6_status y1 = fX7_status y1 := by
  by_cases hA : 0 ≤ y1.toInt ∧ y1.toInt ≤ 7
  · rcases (show y1.toInt = 0 ∨ y1.toInt = 1 ∨ y1.toInt = 2 ∨ y1.toInt = 3 ∨ y1.toInt = 4 ∨ y1.toInt = 5 ∨ y1.toInt = 6 ∨ y1.toInt = 7 by omega) with h | h | h | h | h | h | h | h
    · rw [show y1 = 0 from Int32.toInt_inj.mp (h.trans (by decide))]; decide
    · rw [show y1 = 1 from Int32.toInt_inj.mp (h.trans (by decide))]; decide
    · rw [show y1 = 2 from Int32.toInt_inj.mp (h.trans (by decide))]; decide
    · rw [show y1 = 3 from Int32.toInt_inj.mp (h.trans (by decide))]; decide
    · rw [show y1 = 4 from Int32.toInt_inj.mp (h.trans (by decide))]; decide
    · rw [show y1 = 5 from Int32.toInt_inj.mp (h.trans (by decide))]; decide
    · rw [show y1 = 6 from Int32.toInt_inj.mp (h.trans (by decide))]; decide
    · rw [show y1 = 7 from Int32.toInt_inj.mp (h.trans (by decide))]; decide
  · have ne : ∀ k : Int32, 0 ≤ k.toInt → k.toInt ≤ 7 → ¬ y1 = k := fun k a b e => hA (by rw [e]; exact ⟨a, b⟩)
    have e1 : fX7_in (Int32.toInt64 y1) 12 16 = fX6_within y1 12 16 := oh_in (by decide) (by decide)
    have e2 : fX6_within y1 0 3 = 0 := by
      unfold fX6_within
      by_cases h1 : y1 < 0
      · rw [if_pos h1]
      · rw [if_neg h1, if_pos]
        rw [Int32.lt_iff_toInt_lt] at h1 ⊢
        have k0 : (0 : Int32).toInt = 0 := by decide
        have k3 : (3 : Int32).toInt = 3 := by decide
        omega
    have n0 := ne 0 (by decide) (by decide)
    have n1 := ne 1 (by decide) (by decide)
    have n2 := ne 2 (by decide) (by decide)
    have n3 := ne 3 (by decide) (by decide)
    have n4 := ne 4 (by decide) (by decide)
    have n5 := ne 5 (by decide) (by decide)
    have n6 := ne 6 (by decide) (by decide)
    have n7 := ne 7 (by decide) (by decide)
    unfold fX6_status fX7_status
    by_cases h1 : fX6_within y1 12 16 = 0 <;> simp [e1, e2, h1, n0, n1, n2, n3, n4, n5, n6, n7]
