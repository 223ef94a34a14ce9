/-! end of the law's rows -/
