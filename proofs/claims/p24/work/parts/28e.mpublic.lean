theorem im_X7_most_X7 : ∀ w ∈ u_ws RX7 TX7 16, w ∈ wsX7_most := by decide +kernel
theorem im_X7_dearest_X7 : ∀ w ∈ u_ws RX7 TX7 16, w ∈ wsX7_dearest := by decide +kernel
