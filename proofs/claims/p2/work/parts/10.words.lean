theorem uX0 : ∀ w ∈ u_ws RX0 TX0 4, w ∈ gw := u_gw (by decide +kernel)
theorem dfX0 : ∀ j, j < 4 → defaultValue (tyX0 j) = vp_V [.null, .int 0, .null, .null] j := by decide +kernel
theorem uX1 : ∀ w ∈ u_ws RX1 TX1 7, w ∈ gw := u_gw (by decide +kernel)
theorem dfX1 : ∀ j, j < 7 → defaultValue (tyX1 j) = vp_V [.null, .null, .int 0, .null, .int 0, .int 0, .null] j := by decide +kernel
theorem uX2 : ∀ w ∈ u_ws RX2 TX2 3, w ∈ gw := u_gw (by decide +kernel)
theorem dfX2 : ∀ j, j < 3 → defaultValue (tyX2 j) = vp_V [.null, .null, .null] j := by decide +kernel
theorem uX3 : ∀ w ∈ u_ws RX3 TX3 3, w ∈ gw := u_gw (by decide +kernel)
theorem dfX3 : ∀ j, j < 3 → defaultValue (tyX3 j) = vp_V [.null, .null, .int 0] j := by decide +kernel
theorem uX4 : ∀ w ∈ u_ws RX4 TX4 5, w ∈ gw := u_gw (by decide +kernel)
theorem dfX4 : ∀ j, j < 5 → defaultValue (tyX4 j) = vp_V [.null, .null, .null, .int 0, .null] j := by decide +kernel
theorem uX5 : ∀ w ∈ u_ws RX5 TX5 6, w ∈ gw := u_gw (by decide +kernel)
theorem dfX5 : ∀ j, j < 6 → defaultValue (tyX5 j) = vp_V [.null, .int 0, .int 0, .int 0, .null, .null] j := by decide +kernel
theorem uX6 : ∀ w ∈ u_ws RX6 TX6 6, w ∈ gw := u_gw (by decide +kernel)
theorem dfX6 : ∀ j, j < 6 → defaultValue (tyX6 j) = vp_V [.int 0, .int 0, .int 0, .int 0, .null, .null] j := by decide +kernel
theorem uX7 : ∀ w ∈ u_ws RX7 TX7 8, w ∈ gw := u_gw (by decide +kernel)
theorem dfX7 : ∀ j, j < 8 → defaultValue (tyX7 j) = vp_V [.null, .int 0, .int 0, .int 0, .int 0, .int 0, .int 0, .int 0] j := by decide +kernel
theorem uX8 : ∀ w ∈ u_ws RX8 TX8 3, w ∈ gw := u_gw (by decide +kernel)
theorem dfX8 : ∀ j, j < 3 → defaultValue (tyX8 j) = vp_V [.null, .int 0, .int 0] j := by decide +kernel
theorem uX9 : ∀ w ∈ u_ws RX9 TX9 14, w ∈ gw := u_gw (by decide +kernel)
theorem dfX9 : ∀ j, j < 14 → defaultValue (tyX9 j) = vp_V [.int 0, .int 0, .int 0, .int 0, .int 0, .int 0, .null, .null, .null, .null, .null, .null, .int 0, .int 0] j := by decide +kernel
theorem uX10 : ∀ w ∈ u_ws RX10 TX10 7, w ∈ gw := u_gw (by decide +kernel)
theorem dfX10 : ∀ j, j < 7 → defaultValue (tyX10 j) = vp_V [.null, .null, .int 0, .null, .null, .null, .int 0] j := by decide +kernel
theorem uX11 : ∀ w ∈ u_ws RX11 TX11 20, w ∈ gw := u_gw (by decide +kernel)
theorem dfX11 : ∀ j, j < 20 → defaultValue (tyX11 j) = vp_V [.null, .int 0, .null, .null, .null, .null, .null, .int 0, .int 0, .null, .null, .null, .null, .null, .null, .null, .null, .null, .null, .int 0] j := by decide +kernel
theorem uX12 : ∀ w ∈ u_ws RX12 TX12 36, w ∈ gw := u_gw (by decide +kernel)
theorem dfX12 : ∀ j, j < 36 → defaultValue (tyX12 j) = vp_V [.int 0, .null, .null, .null, .null, .int 0, .int 0, .int 0, .int 0, .int 0, .int 0, .int 0, .int 0, .int 0, .int 0, .null, .int 0, .null, .null, .null, .int 0, .null, .null, .int 0, .int 0, .int 0, .null, .null, .null, .null, .null, .null, .int 0, .null, .null, .null] j := by decide +kernel
