theorem dX4_hashOf_6 : decode cX4_hashOf 6 = .ok (.ireturn, 1) := by decide +kernel
