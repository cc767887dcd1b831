theorem zpT630 : zcheck zpZ zpRS zpMT [] zpC630 zpP9 0 zpA630 [] 3000 = true := by decide +kernel
theorem zpT632 : zcheck zpZ zpRS zpMT [] zpC632 zpP6 2 zpA632 [] 3000 = true := by decide +kernel
theorem zpT633 : zcheck zpZ zpRS zpMT [] zpC633 zpP6 2 zpA633 [] 3000 = true := by decide +kernel
theorem zpT634 : zcheck zpZ zpRS zpMT [zpC3, zpC106, zpC591] zpC634 zpP6 2 zpA634 [] 3000 = true := by decide +kernel
theorem zpT636 : zcheck zpZ zpRS zpMT [] zpC636 zpP3 1 zpA636 [] 3000 = true := by decide +kernel
theorem zpT637 : zcheck zpZ zpRS zpMT [zpC590, zpC636] zpC637 zpP0 1 zpA637 [] 3000 = true := by decide +kernel
theorem zpT638 : zcheck zpZ zpRS zpMT [zpC45, zpC590, zpC594] zpC638 zpP0 1 zpA638 [] 3000 = true := by decide +kernel
theorem zpT639 : zcheck zpZ zpRS zpMT [] zpC639 zpP3 2 zpA639 [] 3000 = true := by decide +kernel
theorem zpT640 : zcheck zpZ zpRS zpMT [zpC106, zpC639] zpC640 zpP0 1 zpA640 [] 3000 = true := by decide +kernel
theorem zpT641 : zcheck zpZ zpRS zpMT [] zpC641 zpP3 1 zpA641 [] 3000 = true := by decide +kernel
theorem zpT642 : zcheck zpZ zpRS zpMT [] zpC642 zpP5 2 zpA642 [] 3000 = true := by decide +kernel
theorem zpT643 : zcheck zpZ zpRS zpMT [zpC639, zpC641, zpC642] zpC643 zpP5 2 zpA643 [] 3000 = true := by decide +kernel
theorem zpT644 : zcheck zpZ zpRS zpMT [zpC590, zpC595, zpC643] zpC644 zpP0 1 zpA644 [] 3000 = true := by decide +kernel
theorem zpT645 : zcheck zpZ zpRS zpMT [zpC643] zpC645 zpP5 1 zpA645 [] 3000 = true := by decide +kernel
theorem zpT646 : zcheck zpZ zpRS zpMT [zpC106, zpC595, zpC645] zpC646 zpP0 1 zpA646 [] 3000 = true := by decide +kernel
theorem zpT647 : zcheck zpZ zpRS zpMT [zpC587, zpC590] zpC647 zpP0 1 zpA647 [] 3000 = true := by decide +kernel
theorem zpT648 : zcheck zpZ zpRS zpMT [zpC639] zpC648 zpP3 2 zpA648 [] 3000 = true := by decide +kernel
theorem zpT649 : zcheck zpZ zpRS zpMT [zpC648] zpC649 zpP5 1 zpA649 [] 3000 = true := by decide +kernel
theorem zpT650 : zcheck zpZ zpRS zpMT [zpC106, zpC595, zpC645, zpC649] zpC650 zpP0 1 zpA650 [] 3000 = true := by decide +kernel
theorem zpT651 : zcheck zpZ zpRS zpMT [zpC643] zpC651 zpP5 3 zpA651 [] 3000 = true := by decide +kernel
theorem zpT652 : zcheck zpZ zpRS zpMT [zpC590, zpC651] zpC652 zpP0 3 zpA652 [] 3000 = true := by decide +kernel
theorem zpT653 : zcheck zpZ zpRS zpMT [] zpC653 zpP5 1 zpA653 [] 3000 = true := by decide +kernel
theorem zpT654 : zcheck zpZ zpRS zpMT [zpC639, zpC653] zpC654 zpP5 2 zpA654 [] 3000 = true := by decide +kernel
theorem zpT655 : zcheck zpZ zpRS zpMT [zpC583] zpC655 zpP5 1 zpA655 [] 3000 = true := by decide +kernel
theorem zpT656 : zcheck zpZ zpRS zpMT [zpC642] zpC656 zpP5 1 zpA656 [] 3000 = true := by decide +kernel
theorem zpT657 : zcheck zpZ zpRS zpMT [] zpC657 zpP13 1 zpA657 [] 3000 = true := by decide +kernel
theorem zpT658 : zcheck zpZ zpRS zpMT [zpC46, zpC655, zpC656, zpC657] zpC658 zpP5 1 zpA658 [] 3000 = true := by decide +kernel
theorem zpT659 : zcheck zpZ zpRS zpMT [zpC654, zpC658] zpC659 zpP0 1 zpA659 [] 3000 = true := by decide +kernel
theorem zpT660 : zcheck zpZ zpRS zpMT [] zpC660 zpP7 0 zpA660 [] 3000 = true := by decide +kernel
theorem zpT661 : zcheck zpZ zpRS zpMT [zpC1, zpC2, zpC3, zpC660] zpC661 zpP0 1 zpA661 [] 3000 = true := by decide +kernel
theorem zpT668 : zcheck zpZ zpRS zpMT [zpC601, zpC603, zpC613] zpC668 zpP9 1 zpA668 [] 3000 = true := by decide +kernel
theorem zpT672 : zcheck zpZ zpRS zpMT [zpC602, zpC603, zpC609, zpC611, zpC613, zpC668, zpC670, zpC671] zpC672 zpP10 0 zpA672 [] 3000 = true := by decide +kernel
theorem zpT673 : zcheck zpZ zpRS zpMT [zpC602, zpC609, zpC610, zpC667, zpC672] zpC673 zpP10 0 zpA673 [] 3000 = true := by decide +kernel
theorem zpT674 : zcheck zpZ zpRS zpMT [zpC602, zpC609, zpC610, zpC667, zpC673] zpC674 zpP10 0 zpA674 [] 3000 = true := by decide +kernel
theorem zpT675 : zcheck zpZ zpRS zpMT [zpC602, zpC609, zpC610, zpC666, zpC667, zpC674] zpC675 zpP10 0 zpA675 [] 3000 = true := by decide +kernel
theorem zpT676 : zcheck zpZ zpRS zpMT [zpC610, zpC665, zpC675] zpC676 zpP10 0 zpA676 [] 3000 = true := by decide +kernel
theorem zpT677 : zcheck zpZ zpRS zpMT [zpC610, zpC664, zpC676] zpC677 zpP10 0 zpA677 [] 3000 = true := by decide +kernel
theorem zpT678 : zcheck zpZ zpRS zpMT [zpC602, zpC603, zpC609, zpC610, zpC611, zpC613, zpC666, zpC667, zpC668, zpC669, zpC670, zpC671, zpC672, zpC677] zpC678 zpP10 0 zpA678 [] 3000 = true := by decide +kernel
theorem zpT679 : zcheck zpZ zpRS zpMT [zpC602, zpC609, zpC610, zpC667, zpC678] zpC679 zpP10 0 zpA679 [] 3000 = true := by decide +kernel
theorem zpT680 : zcheck zpZ zpRS zpMT [zpC602, zpC609, zpC610, zpC667, zpC679] zpC680 zpP10 0 zpA680 [] 3000 = true := by decide +kernel
theorem zpT681 : zcheck zpZ zpRS zpMT [zpC602, zpC609, zpC610, zpC666, zpC667, zpC680] zpC681 zpP10 0 zpA681 [] 3000 = true := by decide +kernel
theorem zpT682 : zcheck zpZ zpRS zpMT [zpC610, zpC665, zpC681] zpC682 zpP10 0 zpA682 [] 3000 = true := by decide +kernel
theorem zpT683 : zcheck zpZ zpRS zpMT [zpC610, zpC664, zpC682] zpC683 zpP10 0 zpA683 [] 3000 = true := by decide +kernel
theorem zpT684 : zcheck zpZ zpRS zpMT [zpC602, zpC603, zpC609, zpC610, zpC611, zpC613, zpC666, zpC667, zpC668, zpC669, zpC670, zpC671, zpC678, zpC683] zpC684 zpP10 0 zpA684 [] 3000 = true := by decide +kernel
theorem zpT685 : zcheck zpZ zpRS zpMT [zpC602, zpC609, zpC610, zpC667, zpC684] zpC685 zpP10 0 zpA685 [] 3000 = true := by decide +kernel
theorem zpT686 : zcheck zpZ zpRS zpMT [zpC602, zpC609, zpC610, zpC667, zpC685] zpC686 zpP10 0 zpA686 [] 3000 = true := by decide +kernel
theorem zpT687 : zcheck zpZ zpRS zpMT [zpC602, zpC609, zpC610, zpC666, zpC667, zpC686] zpC687 zpP10 0 zpA687 [] 3000 = true := by decide +kernel
theorem zpT688 : zcheck zpZ zpRS zpMT [zpC610, zpC665, zpC687] zpC688 zpP10 0 zpA688 [] 3000 = true := by decide +kernel
theorem zpT689 : zcheck zpZ zpRS zpMT [zpC610, zpC664, zpC688] zpC689 zpP10 0 zpA689 [] 3000 = true := by decide +kernel
theorem zpT690 : zcheck zpZ zpRS zpMT [zpC602, zpC603, zpC609, zpC610, zpC611, zpC613, zpC666, zpC667, zpC668, zpC669, zpC670, zpC671, zpC684, zpC689] zpC690 zpP10 0 zpA690 [] 3000 = true := by decide +kernel
theorem zpT691 : zcheck zpZ zpRS zpMT [zpC602, zpC609, zpC610, zpC667, zpC690] zpC691 zpP10 0 zpA691 [] 3000 = true := by decide +kernel
theorem zpT692 : zcheck zpZ zpRS zpMT [zpC602, zpC609, zpC610, zpC667, zpC691] zpC692 zpP10 0 zpA692 [] 3000 = true := by decide +kernel
theorem zpT693 : zcheck zpZ zpRS zpMT [zpC602, zpC609, zpC610, zpC666, zpC667, zpC692] zpC693 zpP10 0 zpA693 [] 3000 = true := by decide +kernel
theorem zpT694 : zcheck zpZ zpRS zpMT [zpC610, zpC665, zpC693] zpC694 zpP10 0 zpA694 [] 3000 = true := by decide +kernel
theorem zpT695 : zcheck zpZ zpRS zpMT [zpC610, zpC664, zpC694] zpC695 zpP10 0 zpA695 [] 3000 = true := by decide +kernel
theorem zpT696 : zcheck zpZ zpRS zpMT [zpC602, zpC603, zpC609, zpC610, zpC611, zpC613, zpC666, zpC667, zpC668, zpC669, zpC670, zpC671, zpC690, zpC695] zpC696 zpP10 0 zpA696 [] 3000 = true := by decide +kernel
theorem zpT697 : zcheck zpZ zpRS zpMT [zpC602, zpC609, zpC610, zpC667, zpC696] zpC697 zpP10 0 zpA697 [] 3000 = true := by decide +kernel
theorem zpT698 : zcheck zpZ zpRS zpMT [zpC602, zpC609, zpC610, zpC667, zpC697] zpC698 zpP10 0 zpA698 [] 3000 = true := by decide +kernel
