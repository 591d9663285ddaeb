theorem sw_kl6 : sw_lw6.all (sw_okE 13 cL_law (some .boolean)) = true := by decide +kernel
theorem sw_kl7 : sw_lw7.all (sw_okE 13 cL_law (some .boolean)) = true := by decide +kernel
theorem sw_kl8 : sw_lw8.all (sw_okE 13 cL_law (some .boolean)) = true := by decide +kernel
theorem sw_kl9 : sw_lw9.all (sw_okE 13 cL_law (some .boolean)) = true := by decide +kernel
theorem sw_kl10 : sw_lw10.all (sw_okE 13 cL_law (some .boolean)) = true := by decide +kernel
theorem sw_kl11 : sw_lw11.all (sw_okE 13 cL_law (some .boolean)) = true := by decide +kernel
