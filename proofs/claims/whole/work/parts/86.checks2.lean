theorem sw_kl12 : sw_lw12.all (sw_okE 13 cL_law (some .boolean)) = true := by decide +kernel
theorem sw_kl13 : sw_lw13.all (sw_okE 13 cL_law (some .boolean)) = true := by decide +kernel
theorem sw_kl14 : sw_lw14.all (sw_okE 13 cL_law (some .boolean)) = true := by decide +kernel
theorem sw_kl15 : sw_lw15.all (sw_okE 13 cL_law (some .boolean)) = true := by decide +kernel
theorem sw_kl16 : sw_lw16.all (sw_okE 13 cL_law (some .boolean)) = true := by decide +kernel
