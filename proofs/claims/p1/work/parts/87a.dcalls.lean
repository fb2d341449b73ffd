theorem dL_law_23 : decode cL_law 23 = .ok (.iload 4, 2) := by decide +kernel
theorem dL_law_25 : decode cL_law 25 = .ok (.aload_n 0, 1) := by decide +kernel
theorem dL_law_26 : decode cL_law 26 = .ok (.arraylength, 1) := by decide +kernel
theorem dL_law_27 : decode cL_law 27 = .ok (.iconst 5, 1) := by decide +kernel
theorem dL_law_28 : decode cL_law 28 = .ok (.isub, 1) := by decide +kernel
theorem dL_law_29 : decode cL_law 29 = .ok (.if_icmp .gt 2716, 3) := by decide +kernel
theorem dL_law_32 : decode cL_law 32 = .ok (.aload_n 0, 1) := by decide +kernel
theorem dL_law_33 : decode cL_law 33 = .ok (.iload 4, 2) := by decide +kernel
theorem dL_law_35 : decode cL_law 35 = .ok (.iaload, 1) := by decide +kernel
theorem dL_law_36 : decode cL_law 36 = .ok (.bipush 63, 2) := by decide +kernel
theorem dL_law_38 : decode cL_law 38 = .ok (.iand, 1) := by decide +kernel
theorem dL_law_39 : decode cL_law 39 = .ok (.tableswitch 2700 0 45 #[197, 241, 333, 389, 469, 549, 629, 685, 753, 809, 822, 835, 848, 911, 979, 1047, 1115, 1183, 1251, 1264, 1277, 1290, 1346, 1402, 1458, 1514, 1570, 1626, 1682, 1738, 1794, 1850, 1906, 1962, 2018, 2074, 2130, 2186, 2242, 2317, 2373, 2429, 2470, 2550, 2606, 2686], 197) := by decide +kernel
theorem dL_law_2739 : decode cL_law 2739 = .ok (.iinc 4 5, 3) := by decide +kernel
theorem dL_law_2742 : decode cL_law 2742 = .ok (.goto (-2719), 3) := by decide +kernel
theorem dL_law_2745 : decode cL_law 2745 = .ok (.iconst 1, 1) := by decide +kernel
