theorem dX7_led_0 : decode cX7_led 0 = .ok (.iconst 0, 1) := by decide +kernel
theorem dX7_led_1 : decode cX7_led 1 = .ok (.istore_n 2, 1) := by decide +kernel
theorem dX7_led_2 : decode cX7_led 2 = .ok (.iconst 0, 1) := by decide +kernel
theorem dX7_led_3 : decode cX7_led 3 = .ok (.istore_n 3, 1) := by decide +kernel
theorem dX7_led_4 : decode cX7_led 4 = .ok (.iload_n 3, 1) := by decide +kernel
theorem dX7_led_5 : decode cX7_led 5 = .ok (.aload_n 0, 1) := by decide +kernel
theorem dX7_led_6 : decode cX7_led 6 = .ok (.getfield 57, 3) := by decide +kernel
theorem dX7_led_9 : decode cX7_led 9 = .ok (.getfield 110, 3) := by decide +kernel
theorem dX7_led_12 : decode cX7_led 12 = .ok (.if_icmp .ge 32, 3) := by decide +kernel
theorem dX7_led_44 : decode cX7_led 44 = .ok (.new 348, 3) := by decide +kernel
theorem dX7_led_47 : decode cX7_led 47 = .ok (.dup, 1) := by decide +kernel
theorem dX7_led_48 : decode cX7_led 48 = .ok (.ldc_w 350, 3) := by decide +kernel
theorem dX7_led_51 : decode cX7_led 51 = .ok (.invokespecial 352, 3) := by decide +kernel
theorem dX7_led_54 : decode cX7_led 54 = .ok (.athrow, 1) := by decide +kernel
theorem dL_led_0 : decode cL_led 0 = .ok (.aload_n 2, 1) := by decide +kernel
theorem dL_led_1 : decode cL_led 1 = .ok (.iconst 0, 1) := by decide +kernel
theorem dL_led_2 : decode cL_led 2 = .ok (.aload_n 0, 1) := by decide +kernel
theorem dL_led_3 : decode cL_led 3 = .ok (.iload_n 1, 1) := by decide +kernel
theorem dL_led_4 : decode cL_led 4 = .ok (.invokevirtual 7, 3) := by decide +kernel
theorem dL_led_12 : decode cL_led 12 = .ok (.astore_n 3, 1) := by decide +kernel
theorem dL_led_13 : decode cL_led 13 = .ok (.iconst 1, 1) := by decide +kernel
theorem dL_led_14 : decode cL_led 14 = .ok (.ireturn, 1) := by decide +kernel
