/-! ===== the classes of the list, and the words of the tables by their places ===== -/
theorem xx_c0 : xx_cls 0 RX0 TX0 3 tyX0 := ⟨rfl, by decide +kernel, tyX0_ok, nmX0, by decide +kernel⟩
theorem xx_c1 : xx_cls 1 RX1 TX1 6 tyX1 := ⟨rfl, by decide +kernel, tyX1_ok, nmX1, by decide +kernel⟩
theorem xx_c2 : xx_cls 2 RX2 TX2 2 tyX2 := ⟨rfl, by decide +kernel, tyX2_ok, nmX2, by decide +kernel⟩
theorem xx_c3 : xx_cls 3 RX3 TX3 5 tyX3 := ⟨rfl, by decide +kernel, tyX3_ok, nmX3, by decide +kernel⟩
theorem xx_c4 : xx_cls 4 RX4 TX4 7 tyX4 := ⟨rfl, by decide +kernel, tyX4_ok, nmX4, by decide +kernel⟩
theorem xx_c5 : xx_cls 5 RX5 TX5 10 tyX5 := ⟨rfl, by decide +kernel, tyX5_ok, nmX5, by decide +kernel⟩
theorem xx_c6 : xx_cls 6 RX6 TX6 2 tyX6 := ⟨rfl, by decide +kernel, tyX6_ok, nmX6, by decide +kernel⟩
theorem xx_c7 : xx_cls 7 RX7 TX7 2 tyX7 := ⟨rfl, by decide +kernel, tyX7_ok, nmX7, by decide +kernel⟩
theorem xx_c8 : xx_cls 8 RX8 TX8 18 tyX8 := ⟨rfl, by decide +kernel, tyX8_ok, nmX8, by decide +kernel⟩
theorem xx_c9 : xx_cls 9 RX9 TX9 29 tyX9 := ⟨rfl, by decide +kernel, tyX9_ok, nmX9, by decide +kernel⟩
