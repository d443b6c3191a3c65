theorem im_X7_right_X7 : ∀ w ∈ u_ws RX7 TX7 16, w ∈ wsX7_right := by decide +kernel
theorem im_X7_terms_X7 : ∀ w ∈ u_ws RX7 TX7 16, w ∈ wsX7_terms := by decide +kernel
theorem im_X7_term_X7 : ∀ w ∈ u_ws RX7 TX7 16, w ∈ wsX7_term := by decide +kernel
