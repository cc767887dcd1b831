theorem zpT699 : zcheck zpZ zpRS zpMT [zpC602, zpC609, zpC610, zpC666, zpC667, zpC698] zpC699 zpP10 0 zpA699 [] 3000 = true := by decide +kernel
theorem zpT700 : zcheck zpZ zpRS zpMT [zpC610, zpC665, zpC699] zpC700 zpP10 0 zpA700 [] 3000 = true := by decide +kernel
theorem zpT701 : zcheck zpZ zpRS zpMT [zpC610, zpC664, zpC700] zpC701 zpP10 0 zpA701 [] 3000 = true := by decide +kernel
theorem zpT702 : zcheck zpZ zpRS zpMT [zpC602, zpC603, zpC609, zpC610, zpC611, zpC613, zpC666, zpC667, zpC668, zpC669, zpC670, zpC671, zpC696, zpC701] zpC702 zpP10 0 zpA702 [] 3000 = true := by decide +kernel
theorem zpT703 : zcheck zpZ zpRS zpMT [zpC602, zpC609, zpC610, zpC667, zpC702] zpC703 zpP10 0 zpA703 [] 3000 = true := by decide +kernel
theorem zpT704 : zcheck zpZ zpRS zpMT [zpC602, zpC609, zpC610, zpC667, zpC703] zpC704 zpP10 0 zpA704 [] 3000 = true := by decide +kernel
theorem zpT705 : zcheck zpZ zpRS zpMT [zpC602, zpC609, zpC610, zpC666, zpC667, zpC704] zpC705 zpP10 0 zpA705 [] 3000 = true := by decide +kernel
theorem zpT706 : zcheck zpZ zpRS zpMT [zpC610, zpC665, zpC705] zpC706 zpP10 0 zpA706 [] 3000 = true := by decide +kernel
theorem zpT707 : zcheck zpZ zpRS zpMT [zpC610, zpC664, zpC706] zpC707 zpP10 0 zpA707 [] 3000 = true := by decide +kernel
theorem zpT708 : zcheck zpZ zpRS zpMT [zpC602, zpC603, zpC609, zpC610, zpC611, zpC613, zpC666, zpC667, zpC668, zpC669, zpC670, zpC671, zpC702, zpC707] zpC708 zpP10 0 zpA708 [] 3000 = true := by decide +kernel
theorem zpT709 : zcheck zpZ zpRS zpMT [zpC602, zpC609, zpC610, zpC667, zpC708] zpC709 zpP10 0 zpA709 [] 3000 = true := by decide +kernel
theorem zpT710 : zcheck zpZ zpRS zpMT [zpC602, zpC609, zpC610, zpC667, zpC709] zpC710 zpP10 0 zpA710 [] 3000 = true := by decide +kernel
theorem zpT711 : zcheck zpZ zpRS zpMT [zpC602, zpC609, zpC610, zpC666, zpC667, zpC710] zpC711 zpP10 0 zpA711 [] 3000 = true := by decide +kernel
theorem zpT712 : zcheck zpZ zpRS zpMT [zpC610, zpC665, zpC711] zpC712 zpP10 0 zpA712 [] 3000 = true := by decide +kernel
theorem zpT713 : zcheck zpZ zpRS zpMT [zpC610, zpC664, zpC712] zpC713 zpP10 0 zpA713 [] 3000 = true := by decide +kernel
theorem zpT715 : zcheck zpZ zpRS zpMT [zpC601, zpC603, zpC609, zpC610, zpC628, zpC714] zpC715 zpP10 1 zpA715 [] 3000 = true := by decide +kernel
theorem zpT716 : zcheck zpZ zpRS zpMT [zpC715] zpC716 zpP7 1 zpA716 [] 3000 = true := by decide +kernel
theorem zpT717 : zcheck zpZ zpRS zpMT [zpC630, zpC716] zpC717 zpP0 1 zpA717 [] 3000 = true := by decide +kernel
theorem zpT718 : zcheck zpZ zpRS zpMT [] zpC718 zpP10 1 zpA718 [] 3000 = true := by decide +kernel
theorem zpT720 : zcheck zpZ zpRS zpMT [zpC719] zpC720 zpP7 1 zpA720 [] 3000 = true := by decide +kernel
theorem zpT721 : zcheck zpZ zpRS zpMT [zpC720] zpC721 zpP7 1 zpA721 [] 3000 = true := by decide +kernel
theorem zpT722 : zcheck zpZ zpRS zpMT [] zpC722 zpP11 2 zpA722 [] 3000 = true := by decide +kernel
theorem zpT723 : zcheck zpZ zpRS zpMT [zpC641, zpC721, zpC722] zpC723 zpP7 1 zpA723 [] 3000 = true := by decide +kernel
theorem zpT724 : zcheck zpZ zpRS zpMT [zpC74, zpC106, zpC587, zpC723] zpC724 zpP0 1 zpA724 [] 3000 = true := by decide +kernel
theorem zpT725 : zcheck zpZ zpRS zpMT [zpC639, zpC641, zpC723] zpC725 zpP7 2 zpA725 [] 3000 = true := by decide +kernel
theorem zpT726 : zcheck zpZ zpRS zpMT [zpC725] zpC726 zpP7 1 zpA726 [] 3000 = true := by decide +kernel
theorem zpT727 : zcheck zpZ zpRS zpMT [zpC725] zpC727 zpP7 1 zpA727 [] 3000 = true := by decide +kernel
theorem zpT728 : zcheck zpZ zpRS zpMT [zpC74, zpC106, zpC726, zpC727] zpC728 zpP0 1 zpA728 [] 3000 = true := by decide +kernel
theorem zpT729 : zcheck zpZ zpRS zpMT [] zpC729 zpP11 2 zpA729 [] 3000 = true := by decide +kernel
theorem zpT730 : zcheck zpZ zpRS zpMT [zpC74, zpC727, zpC729] zpC730 zpP0 1 zpA730 [] 3000 = true := by decide +kernel
theorem zpT731 : zcheck zpZ zpRS zpMT [zpC725] zpC731 zpP7 1 zpA731 [] 3000 = true := by decide +kernel
theorem zpT732 : zcheck zpZ zpRS zpMT [zpC595, zpC731] zpC732 zpP0 1 zpA732 [] 3000 = true := by decide +kernel
theorem zpT733 : zcheck zpZ zpRS zpMT [zpC641, zpC723] zpC733 zpP7 2 zpA733 [] 3000 = true := by decide +kernel
theorem zpT734 : zcheck zpZ zpRS zpMT [zpC590, zpC733] zpC734 zpP0 1 zpA734 [] 3000 = true := by decide +kernel
theorem zpT735 : zcheck zpZ zpRS zpMT [] zpC735 zpP8 2 zpA735 [] 3000 = true := by decide +kernel
theorem zpT736 : zcheck zpZ zpRS zpMT [zpC735] zpC736 zpP8 1 zpA736 [] 3000 = true := by decide +kernel
theorem zpT737 : zcheck zpZ zpRS zpMT [zpC735] zpC737 zpP8 1 zpA737 [] 3000 = true := by decide +kernel
theorem zpT738 : zcheck zpZ zpRS zpMT [zpC106, zpC736, zpC737] zpC738 zpP0 1 zpA738 [] 3000 = true := by decide +kernel
theorem zpT739 : zcheck zpZ zpRS zpMT [zpC722] zpC739 zpP8 2 zpA739 [] 3000 = true := by decide +kernel
theorem zpT740 : zcheck zpZ zpRS zpMT [] zpC740 zpP11 2 zpA740 [] 3000 = true := by decide +kernel
theorem zpT741 : zcheck zpZ zpRS zpMT [zpC739, zpC740] zpC741 zpP8 0 zpA741 [] 3000 = true := by decide +kernel
theorem zpT742 : zcheck zpZ zpRS zpMT [zpC590, zpC639, zpC741] zpC742 zpP8 0 zpA742 [] 3000 = true := by decide +kernel
theorem zpT743 : zcheck zpZ zpRS zpMT [zpC106, zpC595, zpC742] zpC743 zpP0 1 zpA743 [] 3000 = true := by decide +kernel
theorem zpT744 : zcheck zpZ zpRS zpMT [] zpC744 zpP8 0 zpA744 [] 3000 = true := by decide +kernel
theorem zpT745 : zcheck zpZ zpRS zpMT [zpC641] zpC745 zpP8 0 zpA745 [] 3000 = true := by decide +kernel
theorem zpT746 : zcheck zpZ zpRS zpMT [] zpC746 zpP8 1 zpA746 [] 3000 = true := by decide +kernel
theorem zpT747 : zcheck zpZ zpRS zpMT [zpC744, zpC745, zpC746] zpC747 zpP8 1 zpA747 [] 3000 = true := by decide +kernel
theorem zpT748 : zcheck zpZ zpRS zpMT [zpC3, zpC106, zpC747] zpC748 zpP0 1 zpA748 [] 3000 = true := by decide +kernel
theorem zpT749 : zcheck zpZ zpRS zpMT [] zpC749 zpP14 1 zpA749 [] 3000 = true := by decide +kernel
theorem zpT750 : zcheck zpZ zpRS zpMT [zpC749] zpC750 zpP8 1 zpA750 [] 3000 = true := by decide +kernel
theorem zpT751 : zcheck zpZ zpRS zpMT [zpC1, zpC3, zpC106, zpC750] zpC751 zpP0 1 zpA751 [] 3000 = true := by decide +kernel
theorem zpT752 : zcheck zpZ zpRS zpMT [zpC639] zpC752 zpP8 1 zpA752 [] 3000 = true := by decide +kernel
theorem zpT753 : zcheck zpZ zpRS zpMT [zpC106, zpC595, zpC752] zpC753 zpP0 1 zpA753 [] 3000 = true := by decide +kernel
theorem zpT754 : zcheck zpZ zpRS zpMT [zpC592] zpC754 zpP2 0 zpA754 [] 3000 = true := by decide +kernel
theorem zpT755 : zcheck zpZ zpRS zpMT [zpC754] zpC755 zpP0 1 zpA755 [] 3000 = true := by decide +kernel
theorem zpT756 : zcheck zpZ zpRS zpMT [zpC592] zpC756 zpP2 0 zpA756 [] 3000 = true := by decide +kernel
theorem zpT757 : zcheck zpZ zpRS zpMT [zpC756] zpC757 zpP0 1 zpA757 [] 3000 = true := by decide +kernel
theorem zpT758 : zcheck zpZ zpRS zpMT [zpC79, zpC112, zpC147, zpC185, zpC232, zpC273, zpC311, zpC370] zpC758 zpP1 1 zpA758 [] 3000 = true := by decide +kernel
theorem zpT759 : zcheck zpZ zpRS zpMT [zpC758] zpC759 zpP1 1 zpA759 [] 3000 = true := by decide +kernel
theorem zpT760 : zcheck zpZ zpRS zpMT [zpC86, zpC122, zpC154, zpC198, zpC245, zpC280, zpC333, zpC377] zpC760 zpP1 1 zpA760 [] 3000 = true := by decide +kernel
theorem zpT761 : zcheck zpZ zpRS zpMT [zpC760] zpC761 zpP1 1 zpA761 [] 3000 = true := by decide +kernel
theorem zpT762 : zcheck zpZ zpRS zpMT [zpC90, zpC126, zpC161, zpC202, zpC249, zpC284, zpC337, zpC387] zpC762 zpP1 1 zpA762 [] 3000 = true := by decide +kernel
theorem zpT763 : zcheck zpZ zpRS zpMT [zpC762] zpC763 zpP1 1 zpA763 [] 3000 = true := by decide +kernel
theorem zpT764 : zcheck zpZ zpRS zpMT [zpC103, zpC142, zpC177, zpC221, zpC268, zpC300, zpC365, zpC406] zpC764 zpP1 1 zpA764 [] 3000 = true := by decide +kernel
theorem zpT765 : zcheck zpZ zpRS zpMT [zpC764] zpC765 zpP1 1 zpA765 [] 3000 = true := by decide +kernel
theorem zpT766 : zcheck zpZ zpRS zpMT [zpC73, zpC74, zpC106, zpC759, zpC761, zpC763, zpC765] zpC766 zpP0 1 zpA766 [(28, 2, 0, 3)] 3000 = true := by decide +kernel
theorem zpT767 : zcheck zpZ zpRS zpMT [zpC44, zpC45, zpC46] zpC767 zpP0 1 zpA767 [] 3000 = true := by decide +kernel
theorem zpT768 : zcheck zpZ zpRS zpMT [] zpC768 zpP6 0 zpA768 [] 3000 = true := by decide +kernel
theorem zpT769 : zcheck zpZ zpRS zpMT [] zpC769 zpP6 0 zpA769 [] 3000 = true := by decide +kernel
theorem zpT770 : zcheck zpZ zpRS zpMT [zpC74, zpC591, zpC768, zpC769] zpC770 zpP0 1 zpA770 [] 3000 = true := by decide +kernel
theorem zpT771 : zcheck zpZ zpRS zpMT [] zpC771 zpP6 0 zpA771 [] 3000 = true := by decide +kernel
theorem zpT772 : zcheck zpZ zpRS zpMT [] zpC772 zpP0 2 zpA772 [] 3000 = true := by decide +kernel
theorem zpT773 : zcheck zpZ zpRS zpMT [zpC591, zpC771, zpC772] zpC773 zpP0 1 zpA773 [] 3000 = true := by decide +kernel
theorem zpT774 : zcheck zpZ zpRS zpMT [] zpC774 zpP6 3 zpA774 [] 3000 = true := by decide +kernel
theorem zpT775 : zcheck zpZ zpRS zpMT [zpC591, zpC632] zpC775 zpP6 1 zpA775 [] 3000 = true := by decide +kernel
