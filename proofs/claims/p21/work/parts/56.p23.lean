/-! Printed by wip/ai/tab.py. -/
set_option maxRecDepth 1000000 in
theorem okP9 : PmOK rgT pm9 := (pm_cutG 2 1 (pm_cutG 17 0 okP9_0 okP9_1) (pm_cutG 2 2 (pm_cutG 17 0 (pm_cutG 18 0 okP9_2 okP9_3) (pm_cutG 18 0 okP9_4 okP9_5)) (pm_cutG 17 0 (pm_cutG 18 0 (pm_cutG 19 0 okP9_6 okP9_7) (pm_cutG 19 0 okP9_8 okP9_9)) (pm_cutG 19 0 (pm_cutG 18 0 okP9_10 okP9_11) (pm_cutG 18 1 okP9_12 okP9_13)))))
