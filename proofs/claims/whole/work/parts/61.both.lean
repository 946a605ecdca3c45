/-! questions: both answer the same -/
theorem pr_fault (u : ST) (h : INV u) (x : Int32) : PRi me_N_fault me_R_fault [.int x] u := by
  obtain ⟨T, n, b, n', b', G, sh, hI⟩ := h
  by_cases hg : (0 ≤ x ∧ x < nI 2)
  · obtain ⟨j, hj, rfl⟩ := inr_f (n := 2) (by decide) hg
    rcases (show j = 0 ∨ j = 1 by omega) with rfl | rfl
    · exact PRi.eq (z := spv (flt (okh b) 4 n)) hI (by have c := c_fault_ok0 u; rw [hI.2.2.2.1.2.1] at c; exact c) (fun v hv => m_fault_ok0 v T n b n' b' hv.2.2.2.2.2.1 hI.1.1)
    · exact PRi.eq (z := spv (flt (okb b') 5 n')) hI (by have c := c_fault_ok1 u; rw [hI.2.2.2.1.2.2] at c; exact c) (fun v hv => m_fault_ok1 v T n b n' b' hv.2.2.2.2.2.1 hI.1.1)
  · exact PRi.eq hI (c_fault_bad u x hg) (fun v hv => m_fault_bad v T n b n' b' hv.2.2.2.2.2.1 hI.1.1 x hg)
theorem pr_told (u : ST) (h : INV u) (x y : Int32) : PRi me_N_told me_R_told [.int x, .int y] u := by
  obtain ⟨T, n, b, n', b', G, sh, hI⟩ := h
  by_cases hg : (0 ≤ x ∧ x < nI 8) ∧ (0 ≤ y ∧ y < nI 8) ∧ ¬ x = y
  · obtain ⟨g1, g2, g3⟩ := hg
    obtain ⟨p, hp, rfl⟩ := inr_f (n := 8) (by decide) g1
    obtain ⟨q, hq, rfl⟩ := inr_f (n := 8) (by decide) g2
    have hpq : p ≠ q := fun e => g3 (by rw [e])
    exact PRi.eq hI (c_told_ok u T hI.2.1 hI.1.1 p q hp hq hpq) (fun v hv => m_told_ok v T n b n' b' hv.2.2.2.2.2.1 hI.1.1 p q hp hq hpq)
  · exact PRi.eq hI (c_told_bad u x y hg) (fun v hv => m_told_bad v T n b n' b' hv.2.2.2.2.2.1 hI.1.1 x y hg)
theorem pr_boat (u : ST) (h : INV u) (x y : Int32) : PRi me_N_boat me_R_boat [.int x, .int y] u := by
  obtain ⟨T, n, b, n', b', G, sh, hI⟩ := h
  by_cases hg : (0 ≤ x ∧ x < nI (tnb T)) ∧ (0 ≤ y ∧ y < nI 4)
  · obtain ⟨g1, g2⟩ := hg
    obtain ⟨k, hk, rfl⟩ := inr_f (n := tnb T) (by have := hI.1.1.1; omega) g1
    obtain ⟨j, hj, rfl⟩ := inr_f (n := 4) (by decide) g2
    rcases (show j = 0 ∨ j = 1 ∨ j = 2 ∨ j = 3 by omega) with rfl | rfl | rfl | rfl
    · exact PRi.eq hI (c_boat_ok0 u T hI.2.1 hI.1.1 k hk) (fun v hv => m_boat_ok0 v T n b n' b' hv.2.2.2.2.2.1 hI.1.1 k hk)
    · exact PRi.eq hI (c_boat_ok1 u T hI.2.1 hI.1.1 k hk) (fun v hv => m_boat_ok1 v T n b n' b' hv.2.2.2.2.2.1 hI.1.1 k hk)
    · exact PRi.eq hI (c_boat_ok2 u T hI.2.1 hI.1.1 k hk) (fun v hv => m_boat_ok2 v T n b n' b' hv.2.2.2.2.2.1 hI.1.1 k hk)
    · exact PRi.eq hI (c_boat_ok3 u T hI.2.1 hI.1.1 k hk) (fun v hv => m_boat_ok3 v T n b n' b' hv.2.2.2.2.2.1 hI.1.1 k hk)
  · exact PRi.eq hI (c_boat_bad u T hI.2.1.2.2.2.2.2.2.2.2.1 x y hg) (fun v hv => m_boat_bad v T n b n' b' hv.2.2.2.2.2.1 hI.1.1 x y hg)
theorem pr_hates (u : ST) (h : INV u) (x y z : Int32) : PRi me_N_hates me_R_hates [.int x, .int y, .int z] u := by
  obtain ⟨T, n, b, n', b', G, sh, hI⟩ := h
  by_cases hg : (0 ≤ x ∧ x < nI 24) ∧ (0 ≤ y ∧ y < nI 8) ∧ (0 ≤ z ∧ z < nI 8) ∧ ¬ y = z
  · obtain ⟨g0, g1, g2, g3⟩ := hg
    obtain ⟨w, hw, rfl⟩ := inr_f (n := 24) (by decide) g0
    obtain ⟨p, hp, rfl⟩ := inr_f (n := 8) (by decide) g1
    obtain ⟨q, hq, rfl⟩ := inr_f (n := 8) (by decide) g2
    have hpq : p ≠ q := fun e => g3 (by rw [e])
    exact PRi.cq hI (c_hates_ok u T hI.2.1 hI.1.1 w p q hw hp hq hpq) (fun v hv => m_hates_ok v T n b n' b' hv.2.2.2.2.2.1 hI.1.1 w p q hw hp hq hpq)
  · exact PRi.eq hI (c_hates_bad u x y z hg) (fun v hv => m_hates_bad v T n b n' b' hv.2.2.2.2.2.1 hI.1.1 x y z hg)
theorem pr_at (u : ST) (h : INV u) (x y z : Int32) : PRi me_N_at me_R_at [.int x, .int y, .int z] u := by
  obtain ⟨T, n, b, n', b', G, sh, hI⟩ := h
  by_cases hg : (0 ≤ x ∧ x < nI 24) ∧ (0 ≤ y ∧ y < nI (tnb T)) ∧ (0 ≤ z ∧ z < nI 4)
  · obtain ⟨g0, g1, g2⟩ := hg
    obtain ⟨w, hw, rfl⟩ := inr_f (n := 24) (by decide) g0
    obtain ⟨k, hk, rfl⟩ := inr_f (n := tnb T) (by have := hI.1.1.1; omega) g1
    obtain ⟨j, hj, rfl⟩ := inr_f (n := 4) (by decide) g2
    rcases (show j = 0 ∨ j = 1 ∨ j = 2 ∨ j = 3 by omega) with rfl | rfl | rfl | rfl
    · exact PRi.cq hI (c_at_ok0 u T hI.2.1 hI.1.1 w k hw hk) (fun v hv => m_at_ok0 v T n b n' b' hv.2.2.2.2.2.1 hI.1.1 w k hw hk)
    · exact PRi.cq hI (c_at_ok1 u T hI.2.1 hI.1.1 w k hw hk) (fun v hv => m_at_ok1 v T n b n' b' hv.2.2.2.2.2.1 hI.1.1 w k hw hk)
    · exact PRi.cq hI (c_at_ok2 u T hI.2.1 hI.1.1 w k hw hk) (fun v hv => m_at_ok2 v T n b n' b' hv.2.2.2.2.2.1 hI.1.1 w k hw hk)
    · exact PRi.cq hI (c_at_ok3 u T hI.2.1 hI.1.1 w k hw hk) (fun v hv => m_at_ok3 v T n b n' b' hv.2.2.2.2.2.1 hI.1.1 w k hw hk)
  · exact PRi.eq hI (c_at_bad u T hI.2.1.2.2.2.2.2.2.2.2.1 x y z hg) (fun v hv => m_at_bad v T n b n' b' hv.2.2.2.2.2.1 hI.1.1 x y z hg)
theorem pr_afloat (u : ST) (h : INV u) (x : Int32) : PRi me_N_afloat me_R_afloat [.int x] u := by
  obtain ⟨T, n, b, n', b', G, sh, hI⟩ := h
  by_cases hg : (0 ≤ x ∧ x < nI 24)
  · obtain ⟨w, hw, rfl⟩ := inr_f (n := 24) (by decide) hg
    exact PRi.cq hI (c_afloat_ok u T hI.2.1 hI.1.1 w hw) (fun v hv => m_afloat_ok v T n b n' b' hv.2.2.2.2.2.1 hI.1.1 w hw)
  · exact PRi.eq hI (c_afloat_bad u x hg) (fun v hv => m_afloat_bad v T n b n' b' hv.2.2.2.2.2.1 hI.1.1 x hg)
theorem pr_named (u : ST) (h : INV u) (x y : Int32) : PRi me_N_named me_R_named [.int x, .int y] u := by
  obtain ⟨T, n, b, n', b', G, sh, hI⟩ := h
  by_cases hg : (0 ≤ x ∧ x < nI 8) ∧ (0 ≤ y ∧ y < nI 2)
  · obtain ⟨g1, g2⟩ := hg
    obtain ⟨p, hp, rfl⟩ := inr_f (n := 8) (by decide) g1
    obtain ⟨j, hj, rfl⟩ := inr_f (n := 2) (by decide) g2
    rcases (show j = 0 ∨ j = 1 by omega) with rfl | rfl
    · exact PRi.cq hI (c_named_ok0 u T hI.2.1 hI.1.1 p hp) (fun v hv => m_named_ok0 v T n b n' b' hv.2.2.2.2.2.1 hI.1.1 p hp)
    · exact PRi.cq hI (c_named_ok1 u T hI.2.1 hI.1.1 p hp) (fun v hv => m_named_ok1 v T n b n' b' hv.2.2.2.2.2.1 hI.1.1 p hp)
  · exact PRi.eq hI (c_named_bad u x y hg) (fun v hv => m_named_bad v T n b n' b' hv.2.2.2.2.2.1 hI.1.1 x y hg)
theorem pr_first (u : ST) (h : INV u) (x : Int32) : PRi me_N_first me_R_first [.int x] u := by
  obtain ⟨T, n, b, n', b', G, sh, hI⟩ := h
  by_cases hg : (0 ≤ x ∧ x < nI 2)
  · obtain ⟨j, hj, rfl⟩ := inr_f (n := 2) (by decide) hg
    rcases (show j = 0 ∨ j = 1 by omega) with rfl | rfl
    · exact PRi.cq hI (c_first_ok0 u T hI.2.1 hI.1.1) (fun v hv => m_first_ok0 v T n b n' b' hv.2.2.2.2.2.1 hI.1.1)
    · exact PRi.cq hI (c_first_ok1 u T hI.2.1 hI.1.1) (fun v hv => m_first_ok1 v T n b n' b' hv.2.2.2.2.2.1 hI.1.1)
  · exact PRi.eq hI (c_first_bad u x hg) (fun v hv => m_first_bad v T n b n' b' hv.2.2.2.2.2.1 hI.1.1 x hg)
theorem pr_loved (u : ST) (h : INV u) : PRi me_N_loved me_R_loved [] u := by
  obtain ⟨T, n, b, n', b', G, sh, hI⟩ := h
  exact PRi.cq hI (c_loved u T hI.2.1 hI.1.1) (fun v hv => m_loved v T n b n' b' hv.2.2.2.2.2.1 hI.1.1)
theorem pr_bitter (u : ST) (h : INV u) : PRi me_N_bitter me_R_bitter [] u := by
  obtain ⟨T, n, b, n', b', G, sh, hI⟩ := h
  exact PRi.cq hI (c_bitter u T hI.2.1 hI.1.1) (fun v hv => m_bitter v T n b n' b' hv.2.2.2.2.2.1 hI.1.1)
theorem pr_longs (u : ST) (h : INV u) (x : Int32) : PRi me_N_longs me_R_longs [.int x] u := by
  obtain ⟨T, n, b, n', b', G, sh, hI⟩ := h
  by_cases hg : (0 ≤ x ∧ x < nI (tnb T))
  · obtain ⟨k, hk, rfl⟩ := inr_f (n := tnb T) (by have := hI.1.1.1; omega) hg
    exact PRi.cq hI (c_longs_ok u T hI.2.1 hI.1.1 k hk) (fun v hv => m_longs_ok v T n b n' b' hv.2.2.2.2.2.1 hI.1.1 k hk)
  · exact PRi.eq hI (c_longs_bad u T hI.2.1.2.2.2.2.2.2.2.2.1 x hg) (fun v hv => m_longs_bad v T n b n' b' hv.2.2.2.2.2.1 hI.1.1 x hg)
theorem pr_wrong (u : ST) (h : INV u) (x y : Int32) : PRi me_N_wrong me_R_wrong [.int x, .int y] u := by
  obtain ⟨T, n, b, n', b', G, sh, hI⟩ := h
  by_cases hg : (0 ≤ x ∧ x < nI (tnb T)) ∧ (0 ≤ y ∧ y < nI 2)
  · obtain ⟨g1, g2⟩ := hg
    obtain ⟨k, hk, rfl⟩ := inr_f (n := tnb T) (by have := hI.1.1.1; omega) g1
    obtain ⟨j, hj, rfl⟩ := inr_f (n := 2) (by decide) g2
    rcases (show j = 0 ∨ j = 1 by omega) with rfl | rfl
    · exact PRi.cq hI (c_wrong_ok0 u T hI.2.1 hI.1.1 hI.2.2.2.2.2.1.2.2.2.2.2.2.2.2.2.1 k hk) (fun v hv => m_wrong_ok0 v T n b n' b' hv.2.2.2.2.2.1 hI.1.1 k hk)
    · exact PRi.cq hI (c_wrong_ok1 u T hI.2.1 hI.1.1 hI.2.2.2.2.2.1.2.2.2.2.2.2.2.2.2.1 k hk) (fun v hv => m_wrong_ok1 v T n b n' b' hv.2.2.2.2.2.1 hI.1.1 k hk)
  · exact PRi.eq hI (c_wrong_bad u T hI.2.1.2.2.2.2.2.2.2.2.1 x y hg) (fun v hv => m_wrong_bad v T n b n' b' hv.2.2.2.2.2.1 hI.1.1 x y hg)
theorem pr_pay (u : ST) (h : INV u) (x y : Int32) : PRi me_N_pay me_R_pay [.int x, .int y] u := by
  obtain ⟨T, n, b, n', b', G, sh, hI⟩ := h
  by_cases hg : (0 ≤ x ∧ x < nI (tnb T)) ∧ (0 ≤ y ∧ y < nI 2)
  · obtain ⟨g1, g2⟩ := hg
    obtain ⟨k, hk, rfl⟩ := inr_f (n := tnb T) (by have := hI.1.1.1; omega) g1
    obtain ⟨j, hj, rfl⟩ := inr_f (n := 2) (by decide) g2
    rcases (show j = 0 ∨ j = 1 by omega) with rfl | rfl
    · exact PRi.cq hI (c_pay_ok0 u T hI.2.1 hI.1.1 hI.2.2.2.2.2.1.2.2.2.2.2.2.2.2.2.1 k hk) (fun v hv => m_pay_ok0 v T n b n' b' hv.2.2.2.2.2.1 hI.1.1 k hk)
    · exact PRi.cq hI (c_pay_ok1 u T hI.2.1 hI.1.1 hI.2.2.2.2.2.1.2.2.2.2.2.2.2.2.2.1 k hk) (fun v hv => m_pay_ok1 v T n b n' b' hv.2.2.2.2.2.1 hI.1.1 k hk)
  · exact PRi.eq hI (c_pay_bad u T hI.2.1.2.2.2.2.2.2.2.2.1 x y hg) (fun v hv => m_pay_bad v T n b n' b' hv.2.2.2.2.2.1 hI.1.1 x y hg)
theorem pr_waits (u : ST) (h : INV u) (x y : Int32) : PRi me_N_waits me_R_waits [.int x, .int y] u := by
  obtain ⟨T, n, b, n', b', G, sh, hI⟩ := h
  by_cases hg : (0 ≤ x ∧ x < nI (tnb T)) ∧ (0 ≤ y ∧ y < nI 2)
  · obtain ⟨g1, g2⟩ := hg
    obtain ⟨k, hk, rfl⟩ := inr_f (n := tnb T) (by have := hI.1.1.1; omega) g1
    obtain ⟨j, hj, rfl⟩ := inr_f (n := 2) (by decide) g2
    rcases (show j = 0 ∨ j = 1 by omega) with rfl | rfl
    · exact PRi.cq hI (c_waits_ok0 u T hI.2.1 hI.1.1 hI.2.2.2.2.2.1.2.2.2.2.2.2.2.2.2.1 k hk) (fun v hv => m_waits_ok0 v T n b n' b' hv.2.2.2.2.2.1 hI.1.1 k hk)
    · exact PRi.cq hI (c_waits_ok1 u T hI.2.1 hI.1.1 hI.2.2.2.2.2.1.2.2.2.2.2.2.2.2.2.1 k hk) (fun v hv => m_waits_ok1 v T n b n' b' hv.2.2.2.2.2.1 hI.1.1 k hk)
  · exact PRi.eq hI (c_waits_bad u T hI.2.1.2.2.2.2.2.2.2.2.1 x y hg) (fun v hv => m_waits_bad v T n b n' b' hv.2.2.2.2.2.1 hI.1.1 x y hg)
theorem in_n1 {x : Int32} (h : (-1) ≤ x ∧ x ≤ nI 1) : x = (-1) ∨ x = nI 0 ∨ x = nI 1 := by
  by_cases h0 : x < 0
  · left
    have a : ((-1 : Int32)).toInt ≤ x.toInt := Int32.le_iff_toInt_le.mp h.1
    have b : x.toInt < ((0 : Int32)).toInt := Int32.lt_iff_toInt_lt.mp h0
    apply Int32.toInt_inj.mp
    have e1 : ((-1 : Int32)).toInt = -1 := by decide
    have e2 : ((0 : Int32)).toInt = 0 := by decide
    omega
  · right
    obtain ⟨j, hj, rfl⟩ := nI_of h0
    have := (nI_leI hj (by decide)).mp h.2
    rcases (show j = 0 ∨ j = 1 by omega) with rfl | rfl
    · exact Or.inl rfl
    · exact Or.inr rfl
theorem pr_spare (u : ST) (h : INV u) (x : Int32) : PRi me_N_spare me_R_spare [.int x] u := by
  obtain ⟨T, n, b, n', b', G, sh, hI⟩ := h
  by_cases hg : (-1) ≤ x ∧ x ≤ nI 1
  · rcases in_n1 hg with rfl | rfl | rfl
    · exact PRi.cq hI (c_spare_n u T hI.2.1 hI.1.1 hI.2.2.2.2.2.1.2.2.2.2.2.2.2.2.2.1) (fun v hv => m_spare_n v T n b n' b' hv.2.2.2.2.2.1 hI.1.1)
    · exact PRi.cq hI (c_spare_0 u T hI.2.1 hI.1.1 hI.2.2.2.2.2.1.2.2.2.2.2.2.2.2.2.1) (fun v hv => m_spare_0 v T n b n' b' hv.2.2.2.2.2.1 hI.1.1)
    · exact PRi.cq hI (c_spare_1 u T hI.2.1 hI.1.1 hI.2.2.2.2.2.1.2.2.2.2.2.2.2.2.2.1) (fun v hv => m_spare_1 v T n b n' b' hv.2.2.2.2.2.1 hI.1.1)
  · exact PRi.eq hI (c_spare_bad u x hg) (fun v hv => m_spare_bad v T n b n' b' hv.2.2.2.2.2.1 hI.1.1 x hg)
theorem pr_never (u : ST) (h : INV u) : PRi me_N_never me_R_never [] u := by
  obtain ⟨T, n, b, n', b', G, sh, hI⟩ := h
  exact PRi.cq hI (c_never u T hI.2.1 hI.1.1 hI.2.2.2.2.2.1.2.2.2.2.2.2.2.2.2.1 G hI.2.2.2.2.1 hI.1.2) (fun v hv => m_never v T n b n' b' hv.2.2.2.2.2.1 hI.1.1 G hv.2.2.2.2.2.2.1 hI.1.2)
theorem pr_sort (u : ST) (h : INV u) (x : Int32) : PRi me_N_sort me_R_sort [.int x] u := by
  obtain ⟨T, n, b, n', b', G, sh, hI⟩ := h
  by_cases hg : (0 ≤ x ∧ x < nI (tnb T))
  · obtain ⟨k, hk, rfl⟩ := inr_f (n := tnb T) (by have := hI.1.1.1; omega) hg
    exact PRi.cq hI (c_sort_ok u T hI.2.1 hI.1.1 hI.2.2.2.2.2.1.2.2.2.2.2.2.2.2.2.1 G hI.2.2.2.2.1 hI.1.2 k hk) (fun v hv => m_sort_ok v T n b n' b' hv.2.2.2.2.2.1 hI.1.1 G hv.2.2.2.2.2.2.1 hI.1.2 k hk)
  · exact PRi.eq hI (c_sort_bad u T hI.2.1.2.2.2.2.2.2.2.2.1 x hg) (fun v hv => m_sort_bad v T n b n' b' hv.2.2.2.2.2.1 hI.1.1 x hg)
theorem pr_hated (u : ST) (h : INV u) (x y : Int32) : PRi me_N_hated me_R_hated [.int x, .int y] u := by
  obtain ⟨T, n, b, n', b', G, sh, hI⟩ := h
  by_cases hg : (0 ≤ x ∧ x < nI 8) ∧ (0 ≤ y ∧ y < nI 8) ∧ ¬ x = y
  · obtain ⟨g1, g2, g3⟩ := hg
    obtain ⟨p, hp, rfl⟩ := inr_f (n := 8) (by decide) g1
    obtain ⟨q, hq, rfl⟩ := inr_f (n := 8) (by decide) g2
    have hpq : p ≠ q := fun e => g3 (by rw [e])
    exact PRi.cq hI (c_hated_ok u T hI.2.1 hI.1.1 hI.2.2.2.2.2.1.2.2.2.2.2.2.2.2.2.1 G hI.2.2.2.2.1 hI.1.2 p q hp hq hpq) (fun v hv => m_hated_ok v T n b n' b' hv.2.2.2.2.2.1 hI.1.1 G hv.2.2.2.2.2.2.1 hI.1.2 p q hp hq hpq)
  · exact PRi.eq hI (c_hated_bad u x y hg) (fun v hv => m_hated_bad v T n b n' b' hv.2.2.2.2.2.1 hI.1.1 x y hg)
theorem pr_ask (u : ST) (h : INV u) (x y : Int32) : PRi me_N_ask me_R_ask [.int x, .int y] u := by
  obtain ⟨T, n, b, n', b', G, sh, hI⟩ := h
  by_cases hg : (0 ≤ x ∧ x < nI 8) ∧ (0 ≤ y ∧ y < nI 8) ∧ ¬ x = y
  · obtain ⟨g1, g2, g3⟩ := hg
    obtain ⟨p, hp, rfl⟩ := inr_f (n := 8) (by decide) g1
    obtain ⟨q, hq, rfl⟩ := inr_f (n := 8) (by decide) g2
    have hpq : p ≠ q := fun e => g3 (by rw [e])
    exact PRi.cq hI (c_ask_ok u T hI.2.1 hI.1.1 hI.2.2.2.2.2.1.2.2.2.2.2.2.2.2.2.1 G hI.2.2.2.2.1 hI.1.2 p q hp hq hpq) (fun v hv => m_ask_ok v T n b n' b' hv.2.2.2.2.2.1 hI.1.1 G hv.2.2.2.2.2.2.1 hI.1.2 p q hp hq hpq)
  · exact PRi.eq hI (c_ask_bad u x y hg) (fun v hv => m_ask_bad v T n b n' b' hv.2.2.2.2.2.1 hI.1.1 x y hg)
theorem pr_chance (u : ST) (h : INV u) (x y z : Int32) : PRl me_N_chance me_R_chance [.int x, .int y, .int z] u := by
  obtain ⟨T, n, b, n', b', G, sh, hI⟩ := h
  by_cases hg : (0 ≤ x ∧ x < nI 17) ∧ (0 ≤ y ∧ y < nI (tnb T)) ∧ (0 ≤ z ∧ z < nI 2)
  · obtain ⟨g0, g1, g2⟩ := hg
    obtain ⟨c, hc, rfl⟩ := inr_f (n := 17) (by decide) g0
    obtain ⟨k, hk, rfl⟩ := inr_f (n := tnb T) (by have := hI.1.1.1; omega) g1
    obtain ⟨j, hj, rfl⟩ := inr_f (n := 2) (by decide) g2
    rcases (show j = 0 ∨ j = 1 by omega) with rfl | rfl
    · exact PRl.cq hI (c_chance_ok0 u T hI.2.1 hI.1.1 hI.2.2.2.2.2.1.2.2.2.2.2.2.2.2.2.1 c k (by omega) hk) (fun v hv => m_chance_ok0 v T n b n' b' hv.2.2.2.2.2.1 hI.1.1 c k (by omega) hk)
    · exact PRl.cq hI (c_chance_ok1 u T hI.2.1 hI.1.1 hI.2.2.2.2.2.1.2.2.2.2.2.2.2.2.2.1 c k (by omega) hk) (fun v hv => m_chance_ok1 v T n b n' b' hv.2.2.2.2.2.1 hI.1.1 c k (by omega) hk)
  · exact PRl.eq hI (c_chance_bad u T hI.2.1.2.2.2.2.2.2.2.2.1 x y z hg) (fun v hv => m_chance_bad v T n b n' b' hv.2.2.2.2.2.1 hI.1.1 x y z hg)
theorem pr_decades (u : ST) (h : INV u) (x y z : Int32) : PRi me_N_decades me_R_decades [.int x, .int y, .int z] u := by
  obtain ⟨T, n, b, n', b', G, sh, hI⟩ := h
  by_cases hg : (0 ≤ y ∧ y < nI 9) ∧ (0 ≤ z ∧ z < nI 2)
  · obtain ⟨g1, g2⟩ := hg
    obtain ⟨c, hc, rfl⟩ := inr_f (n := 9) (by decide) g1
    obtain ⟨j, hj, rfl⟩ := inr_f (n := 2) (by decide) g2
    rcases (show j = 0 ∨ j = 1 by omega) with rfl | rfl
    · exact PRi.cq hI (c_decades_ok0 u T hI.2.1 hI.1.1 hI.2.2.2.2.2.1.2.2.2.2.2.2.2.2.2.1 x c (by omega)) (fun v hv => m_decades_ok0 v T n b n' b' hv.2.2.2.2.2.1 hI.1.1 x c (by omega))
    · exact PRi.cq hI (c_decades_ok1 u T hI.2.1 hI.1.1 hI.2.2.2.2.2.1.2.2.2.2.2.2.2.2.2.1 x c (by omega)) (fun v hv => m_decades_ok1 v T n b n' b' hv.2.2.2.2.2.1 hI.1.1 x c (by omega))
  · exact PRi.eq hI (c_decades_bad u x y z hg) (fun v hv => m_decades_bad v T n b n' b' hv.2.2.2.2.2.1 hI.1.1 x y z hg)
theorem pr_count8 {T : TD} {n : Nat} {b : Nat → Nat} {n' : Nat} {b' : Nat → Nat} {G : SD} {sh : Nat → Nat × Nat × Nat} {u : ST} (hI : IV T n b n' b' G sh u) : PRi me_N_count me_R_count [.int (nI 8)] u := by
  refine ⟨u.1 0 10, 0, _, by decide, c_count8 u, fun r v h => ⟨h.1, 9, (fun r w => r = some (.int (u.1 0 10)) ∧ QM u w), by decide, ?_, fun r w h' => ⟨h'.1, T, n, b, n', b', G, sh, hI.eqv (EQV.qm h'.2)⟩⟩⟩
  have m := m_count8 u T n b n' b' hI.2.2.2.2.2.1 hI.1.1
  rw [← hI.2.2.2.2.2.2.2.2] at m
  rw [h.2]
  exact m
theorem pr_count (u : ST) (h : INV u) (x : Int32) : PRi me_N_count me_R_count [.int x] u := by
  obtain ⟨T, n, b, n', b', G, sh, hI⟩ := h
  by_cases hg : (0 ≤ x ∧ x < nI 9)
  · obtain ⟨j, hj, rfl⟩ := inr_f (n := 9) (by decide) hg
    rcases (show j = 0 ∨ j = 1 ∨ j = 2 ∨ j = 3 ∨ j = 4 ∨ j = 5 ∨ j = 6 ∨ j = 7 ∨ j = 8 by omega) with rfl | rfl | rfl | rfl | rfl | rfl | rfl | rfl | rfl
    · exact PRi.eq (z := nI (hcn n b)) hI (by have c := c_count0 u; rw [hI.2.2.2.1.1] at c; exact c) (fun v hv => m_count0 v T n b n' b' hv.2.2.2.2.2.1 hI.1.1)
    · exact PRi.eq hI (c_count1 u T hI.2.1) (fun v hv => m_count1 v T n b n' b' hv.2.2.2.2.2.1 hI.1.1)
    · exact PRi.eq (z := nI n) hI (by have c := c_count2 u; rw [hI.2.2.1.1.1] at c; exact c) (fun v hv => m_count2 v T n b n' b' hv.2.2.2.2.2.1 hI.1.1)
    · exact PRi.eq (z := nI n') hI (by have c := c_count3 u; rw [hI.2.2.1.2.1] at c; exact c) (fun v hv => m_count3 v T n b n' b' hv.2.2.2.2.2.1 hI.1.1)
    · exact PRi.eq hI (c_count4 u T hI.2.1) (fun v hv => m_count4 v T n b n' b' hv.2.2.2.2.2.1 hI.1.1)
    · exact PRi.cq hI (c_count5 u T hI.2.1 hI.1.1) (fun v hv => m_count5 v T n b n' b' hv.2.2.2.2.2.1 hI.1.1)
    · exact PRi.cq hI (c_count6 u T hI.2.1 hI.1.1) (fun v hv => m_count6 v T n b n' b' hv.2.2.2.2.2.1 hI.1.1)
    · exact PRi.eq (z := nI G.1) hI (by have c := c_count7 u; rw [hI.2.2.2.2.1.1] at c; exact c) (fun v hv => by have m := m_count7 v T n b n' b' hv.2.2.2.2.2.1 hI.1.1; rw [hv.2.2.2.2.2.2.1.1] at m; exact m)
    · exact pr_count8 hI
  · exact PRi.ee hI (c_count_bad u x hg) (fun v hv => m_count_bad v x hg)
theorem pr_digest (u : ST) (h : INV u) : PRl me_N_digest me_R_digest [] u := by
  obtain ⟨T, n, b, n', b', G, sh, hI⟩ := h
  exact PRl.cq (z := dig T G (nI (hcn n b)) (nI n) (nI n') (nI G.1) (spv (flt (okh b) 4 n)) (spv (flt (okb b') 5 n'))) hI (by have c := (c_digest u T hI.2.1 hI.1.1 hI.2.2.2.2.2.1.2.2.2.2.2.2.2.2.2.1 G hI.2.2.2.2.1 hI.1.2); rw [hI.2.2.2.1.1, hI.2.2.1.1.1, hI.2.2.1.2.1, hI.2.2.2.2.1.1, hI.2.2.2.1.2.1, hI.2.2.2.1.2.2] at c; exact c) (fun v hv => m_digest v T n b n' b' hv.2.2.2.2.2.1 hI.1.1 G hv.2.2.2.2.2.2.1 hI.1.2)
