theorem wd_nat : Cond.native arraycopyName ∈ zT := z_mem 348 (by decide +kernel) (by decide +kernel)
