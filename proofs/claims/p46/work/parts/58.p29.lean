/-! Printed by wip/ai/tab.py. -/
set_option maxRecDepth 1000000 in
theorem okP26 : PmOK rgT pm26 := (pm_cutG 16 (-1) (pm_cutG 17 2 okP26_0 okP26_1) (pm_cutG 17 2 (pm_cutG 18 8 okP26_2 okP26_3) okP26_4))
