theorem zpT0 : zcheck zpZ zpRS zpMT [] zpC0 zpP6 0 zpA0 [] 3000 = true := by decide +kernel
theorem zpT1 : zcheck zpZ zpRS zpMT [] zpC1 zpP6 0 zpA1 [] 3000 = true := by decide +kernel
theorem zpT2 : zcheck zpZ zpRS zpMT [] zpC2 zpP0 2 zpA2 [] 3000 = true := by decide +kernel
theorem zpT3 : zcheck zpZ zpRS zpMT [zpC2] zpC3 zpP7 2 zpA3 [] 3000 = true := by decide +kernel
theorem zpT4 : zcheck zpZ zpRS zpMT [] zpC4 zpP0 2 zpA4 [] 3000 = true := by decide +kernel
theorem zpT5 : zcheck zpZ zpRS zpMT [zpC0, zpC1, zpC3, zpC4] zpC5 zpP0 1 zpA5 [] 3000 = true := by decide +kernel
theorem zpT6 : zcheck zpZ zpRS zpMT [] zpC6 zpP6 0 zpA6 [] 3000 = true := by decide +kernel
theorem zpT7 : zcheck zpZ zpRS zpMT [] zpC7 zpP6 0 zpA7 [] 3000 = true := by decide +kernel
theorem zpT8 : zcheck zpZ zpRS zpMT [zpC3, zpC4, zpC6, zpC7] zpC8 zpP0 1 zpA8 [] 3000 = true := by decide +kernel
theorem zpT9 : zcheck zpZ zpRS zpMT [] zpC9 zpP6 0 zpA9 [] 3000 = true := by decide +kernel
theorem zpT10 : zcheck zpZ zpRS zpMT [] zpC10 zpP6 0 zpA10 [] 3000 = true := by decide +kernel
theorem zpT11 : zcheck zpZ zpRS zpMT [zpC3, zpC4, zpC9, zpC10] zpC11 zpP0 1 zpA11 [] 3000 = true := by decide +kernel
theorem zpT12 : zcheck zpZ zpRS zpMT [] zpC12 zpP6 0 zpA12 [] 3000 = true := by decide +kernel
theorem zpT13 : zcheck zpZ zpRS zpMT [] zpC13 zpP6 0 zpA13 [] 3000 = true := by decide +kernel
theorem zpT14 : zcheck zpZ zpRS zpMT [zpC3, zpC4, zpC12, zpC13] zpC14 zpP0 1 zpA14 [] 3000 = true := by decide +kernel
theorem zpT15 : zcheck zpZ zpRS zpMT [] zpC15 zpP6 0 zpA15 [] 3000 = true := by decide +kernel
theorem zpT16 : zcheck zpZ zpRS zpMT [] zpC16 zpP6 0 zpA16 [] 3000 = true := by decide +kernel
theorem zpT17 : zcheck zpZ zpRS zpMT [zpC3, zpC4, zpC15, zpC16] zpC17 zpP0 1 zpA17 [] 3000 = true := by decide +kernel
theorem zpT18 : zcheck zpZ zpRS zpMT [] zpC18 zpP6 0 zpA18 [] 3000 = true := by decide +kernel
theorem zpT19 : zcheck zpZ zpRS zpMT [] zpC19 zpP6 0 zpA19 [] 3000 = true := by decide +kernel
theorem zpT20 : zcheck zpZ zpRS zpMT [zpC3, zpC4, zpC18, zpC19] zpC20 zpP0 1 zpA20 [] 3000 = true := by decide +kernel
theorem zpT21 : zcheck zpZ zpRS zpMT [zpC4] zpC21 zpP0 1 zpA21 [] 3000 = true := by decide +kernel
theorem zpT22 : zcheck zpZ zpRS zpMT [zpC4] zpC22 zpP0 1 zpA22 [] 3000 = true := by decide +kernel
theorem zpT23 : zcheck zpZ zpRS zpMT [] zpC23 zpP6 0 zpA23 [] 3000 = true := by decide +kernel
theorem zpT24 : zcheck zpZ zpRS zpMT [] zpC24 zpP0 2 zpA24 [] 3000 = true := by decide +kernel
theorem zpT25 : zcheck zpZ zpRS zpMT [zpC4, zpC23, zpC24] zpC25 zpP0 1 zpA25 [] 3000 = true := by decide +kernel
theorem zpT26 : zcheck zpZ zpRS zpMT [] zpC26 zpP6 0 zpA26 [] 3000 = true := by decide +kernel
theorem zpT27 : zcheck zpZ zpRS zpMT [zpC4, zpC24, zpC26] zpC27 zpP0 1 zpA27 [] 3000 = true := by decide +kernel
theorem zpT28 : zcheck zpZ zpRS zpMT [] zpC28 zpP6 0 zpA28 [] 3000 = true := by decide +kernel
theorem zpT29 : zcheck zpZ zpRS zpMT [zpC4, zpC24, zpC28] zpC29 zpP0 1 zpA29 [] 3000 = true := by decide +kernel
theorem zpT30 : zcheck zpZ zpRS zpMT [] zpC30 zpP6 0 zpA30 [] 3000 = true := by decide +kernel
theorem zpT31 : zcheck zpZ zpRS zpMT [zpC4, zpC24, zpC30] zpC31 zpP0 1 zpA31 [] 3000 = true := by decide +kernel
theorem zpT32 : zcheck zpZ zpRS zpMT [] zpC32 zpP6 0 zpA32 [] 3000 = true := by decide +kernel
theorem zpT33 : zcheck zpZ zpRS zpMT [zpC4, zpC24, zpC32] zpC33 zpP0 1 zpA33 [] 3000 = true := by decide +kernel
theorem zpT34 : zcheck zpZ zpRS zpMT [] zpC34 zpP6 0 zpA34 [] 3000 = true := by decide +kernel
theorem zpT35 : zcheck zpZ zpRS zpMT [zpC4, zpC24, zpC34] zpC35 zpP0 1 zpA35 [] 3000 = true := by decide +kernel
theorem zpT36 : zcheck zpZ zpRS zpMT [zpC4] zpC36 zpP0 1 zpA36 [] 3000 = true := by decide +kernel
theorem zpT37 : zcheck zpZ zpRS zpMT [zpC4] zpC37 zpP0 1 zpA37 [] 3000 = true := by decide +kernel
theorem zpT38 : zcheck zpZ zpRS zpMT [] zpC38 zpP6 3 zpA38 [] 3000 = true := by decide +kernel
theorem zpT39 : zcheck zpZ zpRS zpMT [] zpC39 zpP6 2 zpA39 [] 3000 = true := by decide +kernel
theorem zpT40 : zcheck zpZ zpRS zpMT [zpC4, zpC39] zpC40 zpP6 1 zpA40 [] 3000 = true := by decide +kernel
theorem zpT41 : zcheck zpZ zpRS zpMT [zpC2, zpC40] zpC41 zpP6 1 zpA41 [] 3000 = true := by decide +kernel
theorem zpT42 : zcheck zpZ zpRS zpMT [zpC38, zpC41] zpC42 zpP0 1 zpA42 [] 3000 = true := by decide +kernel
theorem zpT43 : zcheck zpZ zpRS zpMT [] zpC43 zpP6 3 zpA43 [] 3000 = true := by decide +kernel
theorem zpT44 : zcheck zpZ zpRS zpMT [] zpC44 zpP6 2 zpA44 [] 3000 = true := by decide +kernel
theorem zpT45 : zcheck zpZ zpRS zpMT [zpC4, zpC44] zpC45 zpP6 1 zpA45 [] 3000 = true := by decide +kernel
theorem zpT46 : zcheck zpZ zpRS zpMT [zpC2, zpC45] zpC46 zpP6 1 zpA46 [] 3000 = true := by decide +kernel
theorem zpT47 : zcheck zpZ zpRS zpMT [zpC43, zpC46] zpC47 zpP0 1 zpA47 [] 3000 = true := by decide +kernel
theorem zpT48 : zcheck zpZ zpRS zpMT [] zpC48 zpP6 3 zpA48 [] 3000 = true := by decide +kernel
theorem zpT49 : zcheck zpZ zpRS zpMT [] zpC49 zpP6 2 zpA49 [] 3000 = true := by decide +kernel
theorem zpT50 : zcheck zpZ zpRS zpMT [zpC4, zpC49] zpC50 zpP6 1 zpA50 [] 3000 = true := by decide +kernel
theorem zpT51 : zcheck zpZ zpRS zpMT [zpC2, zpC50] zpC51 zpP6 1 zpA51 [] 3000 = true := by decide +kernel
theorem zpT52 : zcheck zpZ zpRS zpMT [zpC48, zpC51] zpC52 zpP0 1 zpA52 [] 3000 = true := by decide +kernel
theorem zpT53 : zcheck zpZ zpRS zpMT [] zpC53 zpP6 3 zpA53 [] 3000 = true := by decide +kernel
theorem zpT54 : zcheck zpZ zpRS zpMT [] zpC54 zpP6 2 zpA54 [] 3000 = true := by decide +kernel
theorem zpT55 : zcheck zpZ zpRS zpMT [zpC4, zpC54] zpC55 zpP6 1 zpA55 [] 3000 = true := by decide +kernel
theorem zpT56 : zcheck zpZ zpRS zpMT [zpC2, zpC55] zpC56 zpP6 1 zpA56 [] 3000 = true := by decide +kernel
theorem zpT57 : zcheck zpZ zpRS zpMT [zpC53, zpC56] zpC57 zpP0 1 zpA57 [] 3000 = true := by decide +kernel
theorem zpT58 : zcheck zpZ zpRS zpMT [] zpC58 zpP6 3 zpA58 [] 3000 = true := by decide +kernel
theorem zpT59 : zcheck zpZ zpRS zpMT [] zpC59 zpP6 2 zpA59 [] 3000 = true := by decide +kernel
theorem zpT60 : zcheck zpZ zpRS zpMT [zpC4, zpC59] zpC60 zpP6 1 zpA60 [] 3000 = true := by decide +kernel
theorem zpT61 : zcheck zpZ zpRS zpMT [zpC2, zpC60] zpC61 zpP6 1 zpA61 [] 3000 = true := by decide +kernel
theorem zpT62 : zcheck zpZ zpRS zpMT [zpC58, zpC61] zpC62 zpP0 1 zpA62 [] 3000 = true := by decide +kernel
theorem zpT63 : zcheck zpZ zpRS zpMT [] zpC63 zpP6 3 zpA63 [] 3000 = true := by decide +kernel
theorem zpT64 : zcheck zpZ zpRS zpMT [] zpC64 zpP6 2 zpA64 [] 3000 = true := by decide +kernel
theorem zpT65 : zcheck zpZ zpRS zpMT [zpC4, zpC64] zpC65 zpP6 1 zpA65 [] 3000 = true := by decide +kernel
theorem zpT66 : zcheck zpZ zpRS zpMT [zpC2, zpC65] zpC66 zpP6 1 zpA66 [] 3000 = true := by decide +kernel
theorem zpT67 : zcheck zpZ zpRS zpMT [zpC63, zpC66] zpC67 zpP0 1 zpA67 [] 3000 = true := by decide +kernel
theorem zpT68 : zcheck zpZ zpRS zpMT [] zpC68 zpP11 2 zpA68 [] 3000 = true := by decide +kernel
theorem zpT69 : zcheck zpZ zpRS zpMT [zpC68] zpC69 zpP11 1 zpA69 [] 3000 = true := by decide +kernel
theorem zpT70 : zcheck zpZ zpRS zpMT [] zpC70 zpP14 1 zpA70 [] 3000 = true := by decide +kernel
theorem zpT71 : zcheck zpZ zpRS zpMT [zpC70] zpC71 zpP11 0 zpA71 [] 3000 = true := by decide +kernel
theorem zpT72 : zcheck zpZ zpRS zpMT [zpC69, zpC71] zpC72 zpP11 0 zpA72 [] 3000 = true := by decide +kernel
theorem zpT73 : zcheck zpZ zpRS zpMT [zpC72] zpC73 zpP11 0 zpA73 [] 3000 = true := by decide +kernel
theorem zpT74 : zcheck zpZ zpRS zpMT [] zpC74 zpP0 2 zpA74 [] 3000 = true := by decide +kernel
theorem zpT75 : zcheck zpZ zpRS zpMT [] zpC75 zpP0 2 zpA75 [] 3000 = true := by decide +kernel
theorem zpT76 : zcheck zpZ zpRS zpMT [zpC73, zpC74, zpC75] zpC76 zpP0 1 zpA76 [] 3000 = true := by decide +kernel
theorem zpT77 : zcheck zpZ zpRS zpMT [] zpC77 zpP2 0 zpA77 [] 3000 = true := by decide +kernel
theorem zpT78 : zcheck zpZ zpRS zpMT [zpC2] zpC78 zpP11 2 zpA78 [] 3000 = true := by decide +kernel
theorem zpT79 : zcheck zpZ zpRS zpMT [zpC4, zpC72, zpC78] zpC79 zpP11 0 zpA79 [] 3000 = true := by decide +kernel
theorem zpT80 : zcheck zpZ zpRS zpMT [zpC4, zpC78] zpC80 zpP11 1 zpA80 [] 3000 = true := by decide +kernel
theorem zpT81 : zcheck zpZ zpRS zpMT [zpC77, zpC79, zpC80] zpC81 zpP2 1 zpA81 [] 3000 = true := by decide +kernel
theorem zpT82 : zcheck zpZ zpRS zpMT [] zpC82 zpP0 2 zpA82 [] 3000 = true := by decide +kernel
theorem zpT83 : zcheck zpZ zpRS zpMT [zpC4, zpC81, zpC82] zpC83 zpP0 1 zpA83 [] 3000 = true := by decide +kernel
theorem zpT84 : zcheck zpZ zpRS zpMT [] zpC84 zpP0 2 zpA84 [] 3000 = true := by decide +kernel
theorem zpT85 : zcheck zpZ zpRS zpMT [zpC74, zpC81, zpC82, zpC84] zpC85 zpP0 1 zpA85 [] 3000 = true := by decide +kernel
theorem zpT86 : zcheck zpZ zpRS zpMT [] zpC86 zpP9 0 zpA86 [] 3000 = true := by decide +kernel
theorem zpT87 : zcheck zpZ zpRS zpMT [zpC86] zpC87 zpP0 1 zpA87 [] 3000 = true := by decide +kernel
theorem zpT88 : zcheck zpZ zpRS zpMT [] zpC88 zpP9 1 zpA88 [] 3000 = true := by decide +kernel
theorem zpT89 : zcheck zpZ zpRS zpMT [zpC88] zpC89 zpP9 2 zpA89 [] 3000 = true := by decide +kernel
theorem zpT90 : zcheck zpZ zpRS zpMT [] zpC90 zpP9 0 zpA90 [] 3000 = true := by decide +kernel
theorem zpT91 : zcheck zpZ zpRS zpMT [zpC89, zpC90] zpC91 zpP4 0 zpA91 [] 3000 = true := by decide +kernel
theorem zpT92 : zcheck zpZ zpRS zpMT [] zpC92 zpP9 1 zpA92 [] 3000 = true := by decide +kernel
theorem zpT93 : zcheck zpZ zpRS zpMT [zpC92] zpC93 zpP9 2 zpA93 [] 3000 = true := by decide +kernel
theorem zpT94 : zcheck zpZ zpRS zpMT [] zpC94 zpP9 0 zpA94 [] 3000 = true := by decide +kernel
theorem zpT95 : zcheck zpZ zpRS zpMT [zpC93, zpC94] zpC95 zpP4 0 zpA95 [] 3000 = true := by decide +kernel
theorem zpT96 : zcheck zpZ zpRS zpMT [] zpC96 zpP9 1 zpA96 [] 3000 = true := by decide +kernel
theorem zpT97 : zcheck zpZ zpRS zpMT [zpC96] zpC97 zpP9 2 zpA97 [] 3000 = true := by decide +kernel
theorem zpT98 : zcheck zpZ zpRS zpMT [] zpC98 zpP9 0 zpA98 [] 3000 = true := by decide +kernel
theorem zpT99 : zcheck zpZ zpRS zpMT [zpC97, zpC98] zpC99 zpP4 0 zpA99 [] 3000 = true := by decide +kernel
theorem zpT100 : zcheck zpZ zpRS zpMT [] zpC100 zpP0 2 zpA100 [] 3000 = true := by decide +kernel
theorem zpT101 : zcheck zpZ zpRS zpMT [zpC96, zpC98, zpC100] zpC101 zpP9 1 zpA101 [] 3000 = true := by decide +kernel
theorem zpT102 : zcheck zpZ zpRS zpMT [zpC88, zpC90, zpC100] zpC102 zpP9 1 zpA102 [] 3000 = true := by decide +kernel
theorem zpT103 : zcheck zpZ zpRS zpMT [zpC92, zpC94, zpC100] zpC103 zpP9 1 zpA103 [] 3000 = true := by decide +kernel
theorem zpT104 : zcheck zpZ zpRS zpMT [zpC96, zpC98, zpC100] zpC104 zpP9 1 zpA104 [] 3000 = true := by decide +kernel
theorem zpT105 : zcheck zpZ zpRS zpMT [zpC88, zpC90, zpC100] zpC105 zpP9 1 zpA105 [] 3000 = true := by decide +kernel
theorem zpT106 : zcheck zpZ zpRS zpMT [zpC92, zpC94, zpC100] zpC106 zpP9 1 zpA106 [] 3000 = true := by decide +kernel
theorem zpT107 : zcheck zpZ zpRS zpMT [zpC96, zpC98, zpC100] zpC107 zpP9 1 zpA107 [] 3000 = true := by decide +kernel
theorem zpT108 : zcheck zpZ zpRS zpMT [zpC88, zpC90, zpC100] zpC108 zpP9 1 zpA108 [] 3000 = true := by decide +kernel
theorem zpT109 : zcheck zpZ zpRS zpMT [zpC92, zpC94, zpC100] zpC109 zpP9 1 zpA109 [] 3000 = true := by decide +kernel
theorem zpT110 : zcheck zpZ zpRS zpMT [zpC88, zpC90, zpC100] zpC110 zpP9 1 zpA110 [] 3000 = true := by decide +kernel
theorem zpT111 : zcheck zpZ zpRS zpMT [zpC88, zpC90, zpC100] zpC111 zpP9 1 zpA111 [] 3000 = true := by decide +kernel
theorem zpT112 : zcheck zpZ zpRS zpMT [zpC96, zpC98, zpC100] zpC112 zpP9 1 zpA112 [] 3000 = true := by decide +kernel
theorem zpT113 : zcheck zpZ zpRS zpMT [zpC88, zpC90, zpC100] zpC113 zpP9 1 zpA113 [] 3000 = true := by decide +kernel
theorem zpT114 : zcheck zpZ zpRS zpMT [zpC92, zpC94, zpC100] zpC114 zpP9 1 zpA114 [] 3000 = true := by decide +kernel
theorem zpT115 : zcheck zpZ zpRS zpMT [] zpC115 zpP9 0 zpA115 [] 3000 = true := by decide +kernel
theorem zpT116 : zcheck zpZ zpRS zpMT [zpC88, zpC89, zpC90, zpC91, zpC92, zpC93, zpC95, zpC96, zpC97, zpC99, zpC101, zpC102, zpC103, zpC104, zpC105, zpC106, zpC107, zpC108, zpC109, zpC110, zpC111, zpC112, zpC113, zpC114, zpC115] zpC116 zpP4 1 zpA116 [] 3000 = true := by decide +kernel
