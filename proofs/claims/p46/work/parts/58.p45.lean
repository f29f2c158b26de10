/-! Printed by wip/ai/tab.py. -/
set_option maxRecDepth 1000000 in
theorem okP31 : PmOK rgT pm31 := (pm_cutG 2 1 (pm_cutG 17 0 okP31_0 okP31_1) (pm_cutG 2 2 (pm_cutG 17 0 (pm_cutG 18 0 okP31_2 okP31_3) (pm_cutG 18 0 okP31_4 okP31_5)) (pm_cutG 17 0 (pm_cutG 18 0 (pm_cutG 19 0 okP31_6 okP31_7) (pm_cutG 19 0 okP31_8 okP31_9)) (pm_cutG 19 0 (pm_cutG 18 0 okP31_10 okP31_11) (pm_cutG 18 1 okP31_12 okP31_13)))))
