theorem zpT0 : zcheck zpZ zpRS zpMT [] zpC0 zpP11 2 zpA0 [] 3000 = true := by decide +kernel
theorem zpT1 : zcheck zpZ zpRS zpMT [zpC0] zpC1 zpP11 1 zpA1 [] 3000 = true := by decide +kernel
theorem zpT2 : zcheck zpZ zpRS zpMT [] zpC2 zpP14 1 zpA2 [] 3000 = true := by decide +kernel
theorem zpT3 : zcheck zpZ zpRS zpMT [zpC2] zpC3 zpP11 0 zpA3 [] 3000 = true := by decide +kernel
theorem zpT4 : zcheck zpZ zpRS zpMT [zpC1, zpC3] zpC4 zpP11 0 zpA4 [] 3000 = true := by decide +kernel
theorem zpT5 : zcheck zpZ zpRS zpMT [zpC4] zpC5 zpP11 0 zpA5 [] 3000 = true := by decide +kernel
theorem zpT6 : zcheck zpZ zpRS zpMT [] zpC6 zpP0 2 zpA6 [] 3000 = true := by decide +kernel
theorem zpT7 : zcheck zpZ zpRS zpMT [] zpC7 zpP0 2 zpA7 [] 3000 = true := by decide +kernel
theorem zpT8 : zcheck zpZ zpRS zpMT [zpC5, zpC6, zpC7] zpC8 zpP0 1 zpA8 [] 3000 = true := by decide +kernel
theorem zpT9 : zcheck zpZ zpRS zpMT [] zpC9 zpP2 0 zpA9 [] 3000 = true := by decide +kernel
theorem zpT10 : zcheck zpZ zpRS zpMT [] zpC10 zpP0 2 zpA10 [] 3000 = true := by decide +kernel
theorem zpT11 : zcheck zpZ zpRS zpMT [zpC10] zpC11 zpP11 2 zpA11 [] 3000 = true := by decide +kernel
theorem zpT12 : zcheck zpZ zpRS zpMT [] zpC12 zpP0 2 zpA12 [] 3000 = true := by decide +kernel
theorem zpT13 : zcheck zpZ zpRS zpMT [zpC4, zpC11, zpC12] zpC13 zpP11 0 zpA13 [] 3000 = true := by decide +kernel
theorem zpT14 : zcheck zpZ zpRS zpMT [zpC11, zpC12] zpC14 zpP11 1 zpA14 [] 3000 = true := by decide +kernel
theorem zpT15 : zcheck zpZ zpRS zpMT [zpC9, zpC13, zpC14] zpC15 zpP2 1 zpA15 [] 3000 = true := by decide +kernel
theorem zpT16 : zcheck zpZ zpRS zpMT [] zpC16 zpP0 2 zpA16 [] 3000 = true := by decide +kernel
theorem zpT17 : zcheck zpZ zpRS zpMT [zpC12, zpC15, zpC16] zpC17 zpP0 1 zpA17 [] 3000 = true := by decide +kernel
theorem zpT18 : zcheck zpZ zpRS zpMT [] zpC18 zpP0 2 zpA18 [] 3000 = true := by decide +kernel
theorem zpT19 : zcheck zpZ zpRS zpMT [zpC6, zpC15, zpC16, zpC18] zpC19 zpP0 1 zpA19 [] 3000 = true := by decide +kernel
theorem zpT20 : zcheck zpZ zpRS zpMT [] zpC20 zpP9 0 zpA20 [] 3000 = true := by decide +kernel
theorem zpT21 : zcheck zpZ zpRS zpMT [zpC20] zpC21 zpP0 1 zpA21 [] 3000 = true := by decide +kernel
theorem zpT22 : zcheck zpZ zpRS zpMT [] zpC22 zpP9 1 zpA22 [] 3000 = true := by decide +kernel
theorem zpT23 : zcheck zpZ zpRS zpMT [zpC22] zpC23 zpP9 2 zpA23 [] 3000 = true := by decide +kernel
theorem zpT24 : zcheck zpZ zpRS zpMT [] zpC24 zpP9 0 zpA24 [] 3000 = true := by decide +kernel
theorem zpT25 : zcheck zpZ zpRS zpMT [zpC23, zpC24] zpC25 zpP4 0 zpA25 [] 3000 = true := by decide +kernel
theorem zpT26 : zcheck zpZ zpRS zpMT [] zpC26 zpP9 1 zpA26 [] 3000 = true := by decide +kernel
theorem zpT27 : zcheck zpZ zpRS zpMT [zpC26] zpC27 zpP9 2 zpA27 [] 3000 = true := by decide +kernel
theorem zpT28 : zcheck zpZ zpRS zpMT [] zpC28 zpP9 0 zpA28 [] 3000 = true := by decide +kernel
theorem zpT29 : zcheck zpZ zpRS zpMT [zpC27, zpC28] zpC29 zpP4 0 zpA29 [] 3000 = true := by decide +kernel
theorem zpT30 : zcheck zpZ zpRS zpMT [] zpC30 zpP9 1 zpA30 [] 3000 = true := by decide +kernel
theorem zpT31 : zcheck zpZ zpRS zpMT [zpC30] zpC31 zpP9 2 zpA31 [] 3000 = true := by decide +kernel
theorem zpT32 : zcheck zpZ zpRS zpMT [] zpC32 zpP9 0 zpA32 [] 3000 = true := by decide +kernel
theorem zpT33 : zcheck zpZ zpRS zpMT [zpC31, zpC32] zpC33 zpP4 0 zpA33 [] 3000 = true := by decide +kernel
theorem zpT34 : zcheck zpZ zpRS zpMT [] zpC34 zpP0 2 zpA34 [] 3000 = true := by decide +kernel
theorem zpT35 : zcheck zpZ zpRS zpMT [zpC30, zpC32, zpC34] zpC35 zpP9 1 zpA35 [] 3000 = true := by decide +kernel
theorem zpT36 : zcheck zpZ zpRS zpMT [zpC22, zpC24, zpC34] zpC36 zpP9 1 zpA36 [] 3000 = true := by decide +kernel
theorem zpT37 : zcheck zpZ zpRS zpMT [zpC26, zpC28, zpC34] zpC37 zpP9 1 zpA37 [] 3000 = true := by decide +kernel
theorem zpT38 : zcheck zpZ zpRS zpMT [zpC30, zpC32, zpC34] zpC38 zpP9 1 zpA38 [] 3000 = true := by decide +kernel
theorem zpT39 : zcheck zpZ zpRS zpMT [zpC22, zpC24, zpC34] zpC39 zpP9 1 zpA39 [] 3000 = true := by decide +kernel
theorem zpT40 : zcheck zpZ zpRS zpMT [zpC26, zpC28, zpC34] zpC40 zpP9 1 zpA40 [] 3000 = true := by decide +kernel
theorem zpT41 : zcheck zpZ zpRS zpMT [zpC30, zpC32, zpC34] zpC41 zpP9 1 zpA41 [] 3000 = true := by decide +kernel
theorem zpT42 : zcheck zpZ zpRS zpMT [zpC22, zpC24, zpC34] zpC42 zpP9 1 zpA42 [] 3000 = true := by decide +kernel
theorem zpT43 : zcheck zpZ zpRS zpMT [zpC26, zpC28, zpC34] zpC43 zpP9 1 zpA43 [] 3000 = true := by decide +kernel
theorem zpT44 : zcheck zpZ zpRS zpMT [zpC22, zpC24, zpC34] zpC44 zpP9 1 zpA44 [] 3000 = true := by decide +kernel
theorem zpT45 : zcheck zpZ zpRS zpMT [zpC22, zpC24, zpC34] zpC45 zpP9 1 zpA45 [] 3000 = true := by decide +kernel
theorem zpT46 : zcheck zpZ zpRS zpMT [zpC30, zpC32, zpC34] zpC46 zpP9 1 zpA46 [] 3000 = true := by decide +kernel
theorem zpT47 : zcheck zpZ zpRS zpMT [zpC22, zpC24, zpC34] zpC47 zpP9 1 zpA47 [] 3000 = true := by decide +kernel
theorem zpT48 : zcheck zpZ zpRS zpMT [zpC26, zpC28, zpC34] zpC48 zpP9 1 zpA48 [] 3000 = true := by decide +kernel
theorem zpT49 : zcheck zpZ zpRS zpMT [] zpC49 zpP9 0 zpA49 [] 3000 = true := by decide +kernel
theorem zpT50 : zcheck zpZ zpRS zpMT [zpC22, zpC23, zpC24, zpC25, zpC26, zpC27, zpC29, zpC30, zpC31, zpC33, zpC35, zpC36, zpC37, zpC38, zpC39, zpC40, zpC41, zpC42, zpC43, zpC44, zpC45, zpC46, zpC47, zpC48, zpC49] zpC50 zpP4 1 zpA50 [] 3000 = true := by decide +kernel
theorem zpT51 : zcheck zpZ zpRS zpMT [] zpC51 zpP9 0 zpA51 [] 3000 = true := by decide +kernel
theorem zpT53 : zcheck zpZ zpRS zpMT [] zpC53 zpP6 2 zpA53 [] 3000 = true := by decide +kernel
theorem zpT54 : zcheck zpZ zpRS zpMT [] zpC54 zpP6 2 zpA54 [] 3000 = true := by decide +kernel
theorem zpT55 : zcheck zpZ zpRS zpMT [] zpC55 zpP0 2 zpA55 [] 3000 = true := by decide +kernel
theorem zpT56 : zcheck zpZ zpRS zpMT [zpC6, zpC12, zpC55] zpC56 zpP6 2 zpA56 [] 3000 = true := by decide +kernel
theorem zpT58 : zcheck zpZ zpRS zpMT [] zpC58 zpP3 1 zpA58 [] 3000 = true := by decide +kernel
theorem zpT59 : zcheck zpZ zpRS zpMT [zpC11, zpC58] zpC59 zpP0 1 zpA59 [] 3000 = true := by decide +kernel
theorem zpT60 : zcheck zpZ zpRS zpMT [zpC10, zpC11, zpC15] zpC60 zpP0 1 zpA60 [] 3000 = true := by decide +kernel
theorem zpT61 : zcheck zpZ zpRS zpMT [] zpC61 zpP3 2 zpA61 [] 3000 = true := by decide +kernel
theorem zpT62 : zcheck zpZ zpRS zpMT [zpC6, zpC61] zpC62 zpP0 1 zpA62 [] 3000 = true := by decide +kernel
theorem zpT63 : zcheck zpZ zpRS zpMT [] zpC63 zpP3 1 zpA63 [] 3000 = true := by decide +kernel
theorem zpT64 : zcheck zpZ zpRS zpMT [] zpC64 zpP5 2 zpA64 [] 3000 = true := by decide +kernel
theorem zpT65 : zcheck zpZ zpRS zpMT [zpC61, zpC63, zpC64] zpC65 zpP5 2 zpA65 [] 3000 = true := by decide +kernel
theorem zpT66 : zcheck zpZ zpRS zpMT [zpC11, zpC16, zpC65] zpC66 zpP0 1 zpA66 [] 3000 = true := by decide +kernel
theorem zpT67 : zcheck zpZ zpRS zpMT [zpC65] zpC67 zpP5 1 zpA67 [] 3000 = true := by decide +kernel
theorem zpT68 : zcheck zpZ zpRS zpMT [zpC6, zpC16, zpC67] zpC68 zpP0 1 zpA68 [] 3000 = true := by decide +kernel
theorem zpT69 : zcheck zpZ zpRS zpMT [zpC7, zpC11] zpC69 zpP0 1 zpA69 [] 3000 = true := by decide +kernel
theorem zpT70 : zcheck zpZ zpRS zpMT [zpC61] zpC70 zpP3 2 zpA70 [] 3000 = true := by decide +kernel
theorem zpT71 : zcheck zpZ zpRS zpMT [zpC70] zpC71 zpP5 1 zpA71 [] 3000 = true := by decide +kernel
theorem zpT72 : zcheck zpZ zpRS zpMT [zpC6, zpC16, zpC67, zpC71] zpC72 zpP0 1 zpA72 [] 3000 = true := by decide +kernel
theorem zpT73 : zcheck zpZ zpRS zpMT [zpC65] zpC73 zpP5 3 zpA73 [] 3000 = true := by decide +kernel
theorem zpT74 : zcheck zpZ zpRS zpMT [zpC11, zpC73] zpC74 zpP0 3 zpA74 [] 3000 = true := by decide +kernel
theorem zpT75 : zcheck zpZ zpRS zpMT [] zpC75 zpP5 1 zpA75 [] 3000 = true := by decide +kernel
theorem zpT76 : zcheck zpZ zpRS zpMT [zpC61, zpC75] zpC76 zpP5 2 zpA76 [] 3000 = true := by decide +kernel
theorem zpT77 : zcheck zpZ zpRS zpMT [zpC2] zpC77 zpP5 1 zpA77 [] 3000 = true := by decide +kernel
theorem zpT78 : zcheck zpZ zpRS zpMT [zpC64] zpC78 zpP5 1 zpA78 [] 3000 = true := by decide +kernel
theorem zpT79 : zcheck zpZ zpRS zpMT [] zpC79 zpP13 1 zpA79 [] 3000 = true := by decide +kernel
theorem zpT80 : zcheck zpZ zpRS zpMT [] zpC80 zpP14 1 zpA80 [] 3000 = true := by decide +kernel
theorem zpT81 : zcheck zpZ zpRS zpMT [zpC77, zpC78, zpC79, zpC80] zpC81 zpP5 1 zpA81 [] 3000 = true := by decide +kernel
theorem zpT82 : zcheck zpZ zpRS zpMT [zpC76, zpC81] zpC82 zpP0 1 zpA82 [] 3000 = true := by decide +kernel
theorem zpT83 : zcheck zpZ zpRS zpMT [] zpC83 zpP7 0 zpA83 [] 3000 = true := by decide +kernel
theorem zpT84 : zcheck zpZ zpRS zpMT [] zpC84 zpP0 2 zpA84 [] 3000 = true := by decide +kernel
theorem zpT85 : zcheck zpZ zpRS zpMT [] zpC85 zpP0 2 zpA85 [] 3000 = true := by decide +kernel
theorem zpT86 : zcheck zpZ zpRS zpMT [zpC55, zpC83, zpC84, zpC85] zpC86 zpP0 1 zpA86 [] 3000 = true := by decide +kernel
theorem zpT93 : zcheck zpZ zpRS zpMT [zpC22, zpC24, zpC34] zpC93 zpP9 1 zpA93 [] 3000 = true := by decide +kernel
theorem zpT97 : zcheck zpZ zpRS zpMT [zpC23, zpC24, zpC30, zpC32, zpC34, zpC93, zpC95, zpC96] zpC97 zpP10 0 zpA97 [] 3000 = true := by decide +kernel
theorem zpT98 : zcheck zpZ zpRS zpMT [zpC23, zpC30, zpC31, zpC92, zpC97] zpC98 zpP10 0 zpA98 [] 3000 = true := by decide +kernel
