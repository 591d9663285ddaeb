theorem sw_kl0 : sw_lw0.all (sw_okE 13 cL_law (some .boolean)) = true := by decide +kernel
theorem sw_kl1 : sw_lw1.all (sw_okE 13 cL_law (some .boolean)) = true := by decide +kernel
theorem sw_kl2 : sw_lw2.all (sw_okE 13 cL_law (some .boolean)) = true := by decide +kernel
theorem sw_kl3 : sw_lw3.all (sw_okE 13 cL_law (some .boolean)) = true := by decide +kernel
theorem sw_kl4 : sw_lw4.all (sw_okE 13 cL_law (some .boolean)) = true := by decide +kernel
theorem sw_kl5 : sw_lw5.all (sw_okE 13 cL_law (some .boolean)) = true := by decide +kernel
