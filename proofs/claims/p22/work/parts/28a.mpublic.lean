theorem im_X7_type_X7 : ∀ w ∈ u_ws RX7 TX7 16, w ∈ wsX7_type := by decide +kernel
theorem im_X7_kind_X7 : ∀ w ∈ u_ws RX7 TX7 16, w ∈ wsX7_kind := by decide +kernel
theorem im_X7_wire_X7 : ∀ w ∈ u_ws RX7 TX7 16, w ∈ wsX7_wire := by decide +kernel
