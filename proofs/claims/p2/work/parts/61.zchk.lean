theorem zpT0 : zcheck zpZ zpRS zpMT [] zpC0 zpP10 2 zpA0 [] 3000 = true := by decide +kernel
theorem zpT1 : zcheck zpZ zpRS zpMT [zpC0] zpC1 zpP10 1 zpA1 [] 3000 = true := by decide +kernel
theorem zpT2 : zcheck zpZ zpRS zpMT [] zpC2 zpP13 1 zpA2 [] 3000 = true := by decide +kernel
theorem zpT3 : zcheck zpZ zpRS zpMT [zpC2] zpC3 zpP10 0 zpA3 [] 3000 = true := by decide +kernel
theorem zpT4 : zcheck zpZ zpRS zpMT [zpC1, zpC3] zpC4 zpP10 0 zpA4 [] 3000 = true := by decide +kernel
theorem zpT5 : zcheck zpZ zpRS zpMT [zpC4] zpC5 zpP10 0 zpA5 [] 3000 = true := by decide +kernel
theorem zpT6 : zcheck zpZ zpRS zpMT [] zpC6 zpP0 2 zpA6 [] 3000 = true := by decide +kernel
theorem zpT7 : zcheck zpZ zpRS zpMT [] zpC7 zpP0 2 zpA7 [] 3000 = true := by decide +kernel
theorem zpT8 : zcheck zpZ zpRS zpMT [zpC5, zpC6, zpC7] zpC8 zpP0 1 zpA8 [] 3000 = true := by decide +kernel
theorem zpT9 : zcheck zpZ zpRS zpMT [] zpC9 zpP2 0 zpA9 [] 3000 = true := by decide +kernel
theorem zpT10 : zcheck zpZ zpRS zpMT [] zpC10 zpP0 2 zpA10 [] 3000 = true := by decide +kernel
theorem zpT11 : zcheck zpZ zpRS zpMT [zpC10] zpC11 zpP10 2 zpA11 [] 3000 = true := by decide +kernel
theorem zpT12 : zcheck zpZ zpRS zpMT [] zpC12 zpP0 2 zpA12 [] 3000 = true := by decide +kernel
theorem zpT13 : zcheck zpZ zpRS zpMT [zpC4, zpC11, zpC12] zpC13 zpP10 0 zpA13 [] 3000 = true := by decide +kernel
theorem zpT14 : zcheck zpZ zpRS zpMT [zpC11, zpC12] zpC14 zpP10 1 zpA14 [] 3000 = true := by decide +kernel
theorem zpT15 : zcheck zpZ zpRS zpMT [zpC9, zpC13, zpC14] zpC15 zpP2 1 zpA15 [] 3000 = true := by decide +kernel
theorem zpT16 : zcheck zpZ zpRS zpMT [] zpC16 zpP0 2 zpA16 [] 3000 = true := by decide +kernel
theorem zpT17 : zcheck zpZ zpRS zpMT [zpC12, zpC15, zpC16] zpC17 zpP0 1 zpA17 [] 3000 = true := by decide +kernel
theorem zpT18 : zcheck zpZ zpRS zpMT [] zpC18 zpP0 2 zpA18 [] 3000 = true := by decide +kernel
theorem zpT19 : zcheck zpZ zpRS zpMT [zpC6, zpC15, zpC16, zpC18] zpC19 zpP0 1 zpA19 [] 3000 = true := by decide +kernel
theorem zpT20 : zcheck zpZ zpRS zpMT [] zpC20 zpP8 0 zpA20 [] 3000 = true := by decide +kernel
theorem zpT21 : zcheck zpZ zpRS zpMT [zpC20] zpC21 zpP0 1 zpA21 [] 3000 = true := by decide +kernel
theorem zpT22 : zcheck zpZ zpRS zpMT [] zpC22 zpP3 1 zpA22 [] 3000 = true := by decide +kernel
theorem zpT23 : zcheck zpZ zpRS zpMT [zpC11, zpC22] zpC23 zpP0 1 zpA23 [] 3000 = true := by decide +kernel
theorem zpT24 : zcheck zpZ zpRS zpMT [zpC10, zpC11, zpC15] zpC24 zpP0 1 zpA24 [] 3000 = true := by decide +kernel
theorem zpT25 : zcheck zpZ zpRS zpMT [] zpC25 zpP3 2 zpA25 [] 3000 = true := by decide +kernel
theorem zpT26 : zcheck zpZ zpRS zpMT [zpC6, zpC25] zpC26 zpP0 1 zpA26 [] 3000 = true := by decide +kernel
theorem zpT27 : zcheck zpZ zpRS zpMT [] zpC27 zpP3 1 zpA27 [] 3000 = true := by decide +kernel
theorem zpT28 : zcheck zpZ zpRS zpMT [] zpC28 zpP4 2 zpA28 [] 3000 = true := by decide +kernel
theorem zpT29 : zcheck zpZ zpRS zpMT [zpC25, zpC27, zpC28] zpC29 zpP4 2 zpA29 [] 3000 = true := by decide +kernel
theorem zpT30 : zcheck zpZ zpRS zpMT [zpC11, zpC16, zpC29] zpC30 zpP0 1 zpA30 [] 3000 = true := by decide +kernel
theorem zpT31 : zcheck zpZ zpRS zpMT [zpC29] zpC31 zpP4 1 zpA31 [] 3000 = true := by decide +kernel
theorem zpT32 : zcheck zpZ zpRS zpMT [zpC6, zpC16, zpC31] zpC32 zpP0 1 zpA32 [] 3000 = true := by decide +kernel
theorem zpT33 : zcheck zpZ zpRS zpMT [zpC7, zpC11] zpC33 zpP0 1 zpA33 [] 3000 = true := by decide +kernel
theorem zpT34 : zcheck zpZ zpRS zpMT [zpC25] zpC34 zpP3 2 zpA34 [] 3000 = true := by decide +kernel
theorem zpT35 : zcheck zpZ zpRS zpMT [zpC34] zpC35 zpP4 1 zpA35 [] 3000 = true := by decide +kernel
theorem zpT36 : zcheck zpZ zpRS zpMT [zpC6, zpC16, zpC31, zpC35] zpC36 zpP0 1 zpA36 [] 3000 = true := by decide +kernel
theorem zpT37 : zcheck zpZ zpRS zpMT [zpC29] zpC37 zpP4 3 zpA37 [] 3000 = true := by decide +kernel
theorem zpT38 : zcheck zpZ zpRS zpMT [zpC11, zpC37] zpC38 zpP0 3 zpA38 [] 3000 = true := by decide +kernel
theorem zpT39 : zcheck zpZ zpRS zpMT [] zpC39 zpP4 1 zpA39 [] 3000 = true := by decide +kernel
theorem zpT40 : zcheck zpZ zpRS zpMT [zpC25, zpC39] zpC40 zpP4 2 zpA40 [] 3000 = true := by decide +kernel
theorem zpT41 : zcheck zpZ zpRS zpMT [zpC2] zpC41 zpP4 1 zpA41 [] 3000 = true := by decide +kernel
theorem zpT42 : zcheck zpZ zpRS zpMT [zpC28] zpC42 zpP4 1 zpA42 [] 3000 = true := by decide +kernel
theorem zpT43 : zcheck zpZ zpRS zpMT [] zpC43 zpP12 1 zpA43 [] 3000 = true := by decide +kernel
theorem zpT44 : zcheck zpZ zpRS zpMT [] zpC44 zpP13 1 zpA44 [] 3000 = true := by decide +kernel
theorem zpT45 : zcheck zpZ zpRS zpMT [zpC41, zpC42, zpC43, zpC44] zpC45 zpP4 1 zpA45 [] 3000 = true := by decide +kernel
theorem zpT46 : zcheck zpZ zpRS zpMT [zpC40, zpC45] zpC46 zpP0 1 zpA46 [] 3000 = true := by decide +kernel
theorem zpT47 : zcheck zpZ zpRS zpMT [] zpC47 zpP6 0 zpA47 [] 3000 = true := by decide +kernel
theorem zpT48 : zcheck zpZ zpRS zpMT [] zpC48 zpP0 2 zpA48 [] 3000 = true := by decide +kernel
theorem zpT49 : zcheck zpZ zpRS zpMT [] zpC49 zpP0 2 zpA49 [] 3000 = true := by decide +kernel
theorem zpT50 : zcheck zpZ zpRS zpMT [] zpC50 zpP0 2 zpA50 [] 3000 = true := by decide +kernel
theorem zpT51 : zcheck zpZ zpRS zpMT [zpC47, zpC48, zpC49, zpC50] zpC51 zpP0 1 zpA51 [] 3000 = true := by decide +kernel
theorem zpT52 : zcheck zpZ zpRS zpMT [] zpC52 zpP8 1 zpA52 [] 3000 = true := by decide +kernel
theorem zpT53 : zcheck zpZ zpRS zpMT [zpC52] zpC53 zpP8 2 zpA53 [] 3000 = true := by decide +kernel
theorem zpT54 : zcheck zpZ zpRS zpMT [] zpC54 zpP8 0 zpA54 [] 3000 = true := by decide +kernel
theorem zpT55 : zcheck zpZ zpRS zpMT [] zpC55 zpP8 0 zpA55 [] 3000 = true := by decide +kernel
theorem zpT56 : zcheck zpZ zpRS zpMT [] zpC56 zpP9 0 zpA56 [] 3000 = true := by decide +kernel
theorem zpT57 : zcheck zpZ zpRS zpMT [] zpC57 zpP0 2 zpA57 [] 3000 = true := by decide +kernel
theorem zpT58 : zcheck zpZ zpRS zpMT [zpC52, zpC55, zpC57] zpC58 zpP8 1 zpA58 [] 3000 = true := by decide +kernel
theorem zpT59 : zcheck zpZ zpRS zpMT [zpC52, zpC53, zpC55, zpC56, zpC57, zpC58] zpC59 zpP9 0 zpA59 [] 3000 = true := by decide +kernel
