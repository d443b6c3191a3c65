theorem im_X7_cures_X7 : ∀ w ∈ u_ws RX7 TX7 16, w ∈ wsX7_cures := by decide +kernel
