theorem dX9_deliver_71 : decode cX9_deliver 71 = .ok (.goto (-55), 3) := by decide +kernel
theorem dX9_deliver_74 : decode cX9_deliver 74 = .ok (.return_, 1) := by decide +kernel
