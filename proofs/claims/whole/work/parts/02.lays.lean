theorem iF : ∀ w ∈ u_ws RF TF 1, w ∈ gw := by decide +kernel
theorem iM : ∀ w ∈ u_ws RM TM 4, w ∈ gw := by decide +kernel
