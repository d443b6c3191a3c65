theorem im_X7_digest_X7 : ∀ w ∈ u_ws RX7 TX7 16, w ∈ wsX7_digest := by decide +kernel
